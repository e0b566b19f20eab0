/-! pure: dividends, prizes -/
section PD
theorem sumI_b {f : Nat → Int32} : ∀ {n : Nat}, n ≤ 4 → (∀ q, q < n → 0 ≤ (f q).toInt ∧ (f q).toInt ≤ 100) → 0 ≤ (sumI f n).toInt ∧ (sumI f n).toInt ≤ 100 * n
  | 0, _, _ => ⟨show 0 ≤ (0 : Int32).toInt by decide, by rw [show (sumI f 0).toInt = 0 from rfl]; omega⟩
  | n + 1, hn, h => by
    have ih := sumI_b (n := n) (by omega) (fun q hq => h q (by omega))
    have h1 := h n (by omega)
    have s : (sumI f n + f n).toInt = (sumI f n).toInt + (f n).toInt := by
      rw [Int32.toInt_add, Int.bmod_def]; omega
    rw [show sumI f (n + 1) = sumI f n + f n from rfl, s]
    omega
theorem sumF_eq {f : Nat → Int32} {g : Nat → Int64} {a : Int32} (ha : 0 ≤ a.toInt ∧ a.toInt ≤ 100) : ∀ {n : Nat}, n ≤ 4 → (∀ q, q < n → 0 ≤ (f q).toInt ∧ (f q).toInt ≤ 100) → (∀ q, q < n → g q = (f q).toInt64) → (sumF a.toInt64 g n).toInt = a.toInt + (sumI f n).toInt
  | 0, _, _, _ => by rw [show sumF a.toInt64 g 0 = a.toInt64 from rfl, Int32.toInt_toInt64, show (sumI f 0).toInt = 0 from rfl]; omega
  | n + 1, hn, h, e => by
    have ih := sumF_eq ha (n := n) (by omega) (fun q hq => h q (by omega)) (fun q hq => e q (by omega))
    have b := sumI_b (n := n) (by omega) (fun q hq => h q (by omega))
    have h1 := h n (by omega)
    have s : (sumI f n + f n).toInt = (sumI f n).toInt + (f n).toInt := by
      rw [Int32.toInt_add, Int.bmod_def]; omega
    rw [show sumF a.toInt64 g (n + 1) = sumF a.toInt64 g n + g n from rfl, show sumI f (n + 1) = sumI f n + f n from rfl, s, e n (by omega), i64_add ih (Int32.toInt_toInt64 _) ⟨by omega, by omega⟩]
    omega
theorem isIn_b {v : Int32} {a b : Int32} (h : ¬ x_isIn v a b = 0) : a.toInt ≤ v.toInt ∧ v.toInt ≤ b.toInt := ⟨(fa_le _ _).mp (isIn_p.mp h).1, (fa_le _ _).mp (isIn_p.mp h).2⟩
theorem okD_eq {DV : Nat → Int64} {E : Nat → zD} {N dh : Nat} {l s c : Int32} (hd : dh ≤ 4) (hE : okE N E dh) (hv : dvR DV E dh) : okDc E dh l s c ↔ okDm DV dh l s c := by
  have key : ¬ x_isIn s 0 100 = 0 → ((sumI (fun d => (E d).2.1) dh + s ≤ 100) ↔ (sumF s.toInt64 (fun e => DV (6 * e + 1)) dh ≤ 100)) := fun hs => by
    have hs := isIn_b hs
    have hs : 0 ≤ s.toInt ∧ s.toInt ≤ 100 := hs
    have b := sumI_b (f := fun d => (E d).2.1) hd (fun q hq => (hE.1 q hq).2.1)
    have f := sumF_eq (f := fun d => (E d).2.1) (g := fun e => DV (6 * e + 1)) hs hd (fun q hq => (hE.1 q hq).2.1) (fun q hq => (hv q hq).2.1)
    have t : (sumI (fun d => (E d).2.1) dh + s).toInt = (sumI (fun d => (E d).2.1) dh).toInt + s.toInt := by
      rw [Int32.toInt_add, Int.bmod_def]; omega
    rw [fa_le, fa_le64, t, f, show (100 : Int32).toInt = 100 from rfl, show (100 : Int64).toInt = 100 from rfl]
    omega
  have k2 : dh < 4 → ((dh = 0 ∨ l < (E (dh - 1)).1) ↔ (dh = 0 ∨ l.toInt64 < DV (6 * dh - 6))) := fun h4 => by
    by_cases c : dh = 0
    · exact ⟨fun _ => Or.inl c, fun _ => Or.inl c⟩
    · obtain ⟨t, rfl⟩ : ∃ t, dh = t + 1 := ⟨dh - 1, by omega⟩
      rw [show 6 * (t + 1) - 6 = 6 * t by omega, (hv t (by omega)).1, fa_wide_lt]
      rfl
  unfold okDc okDm okD
  constructor
  · rintro ⟨a1, a2, a3, a4, a5, a6⟩
    exact ⟨a4, a1, a2, (key a2).mp a6, a3, (k2 a4).mp a5⟩
  · rintro ⟨a4, a1, a2, a6, a3, a5⟩
    exact ⟨a1, a2, a3, a4, (k2 a4).mpr a5, (key a2).mpr a6⟩
theorem dvq_eq {DV : Nat → Int64} {E : Nat → zD} {dh : Nat} {e y : Int32} (hd : dh ≤ 4) (hv : dvR DV E dh) : (if ¬ x_C dh e = 0 ∧ ¬ x_isIn y 0 5 = 0 then dvq (E e.toNatClampNeg) y else -1) = (if ¬ x_C dh e = 0 ∧ ¬ x_isIn y 0 5 = 0 then DV (6 * e.toNatClampNeg + y.toNatClampNeg) else -1) := by
  by_cases c : ¬ x_C dh e = 0 ∧ ¬ x_isIn y 0 5 = 0
  · rw [if_pos c, if_pos c]
    obtain ⟨k, hk, rfl⟩ := x_C_k (by omega) c.1
    obtain ⟨j, hj, rfl⟩ := isIn_k (N := 5) (by decide) c.2
    rw [nI_clamp (by omega), nI_clamp (by omega)]
    obtain ⟨h0, h1, h2, h3, h4, h5⟩ := hv k hk
    have hj6 : j = 0 ∨ j = 1 ∨ j = 2 ∨ j = 3 ∨ j = 4 ∨ j = 5 := by omega
    rcases hj6 with rfl | rfl | rfl | rfl | rfl | rfl
    · rw [show 6 * k + 0 = 6 * k from rfl, h0]; rfl
    · rw [h1]; rfl
    · rw [h2]; rfl
    · rw [h3]; rfl
    · rw [h4]; rfl
    · rw [h5]; rfl
  · rw [if_neg c, if_neg c]
theorem prize_eq {Z Z9 : Nat → Int64} {P P9 : Nat → Int32} {n : Nat} (hn : n ≤ 20) (h : ∀ q, q < n → Z q = Z9 q ∧ P q = P9 q ∧ 1 ≤ (P9 q).toInt ∧ (P9 q).toInt ≤ 9) (c x : Int32) : x_prize Z P n c x = x_prz Z9 P9 n c x := by
  unfold x_prz
  by_cases c0 : x_C n c = 0
  · rw [if_pos c0]
    unfold x_prize
    unfold x_C at c0
    by_cases c1 : c < 0
    · rw [if_pos c1]
    · rw [if_neg c1] at c0 ⊢
      by_cases c2 : nI n ≤ c
      · rw [if_pos c2]
      · rw [if_neg c2] at c0; exact absurd c0 (by decide)
  · rw [if_neg c0]
    obtain ⟨k, hk, rfl⟩ := x_C_k (by omega) c0
    obtain ⟨h1, h2, h3, h4⟩ := h k hk
    unfold x_prize
    rw [if_neg (nI_pos (by omega)), if_neg (nI_ge hk (by omega)), nI_clamp (by omega), h1, h2]
    generalize P9 k = p at h3 h4
    generalize Z9 k = z
    have hp : (p - 1).toInt = p.toInt - 1 := by rw [Int32.toInt_sub, Int.bmod_def, show (1 : Int32).toInt = 1 from rfl]; omega
    have e1 : (x = -1) ↔ x.toInt = -1 := by rw [fa_eq]; rfl
    by_cases c1 : x_isIn x (-1) (p - 1) = 0
    · rw [if_pos c1]
      have : ¬ (-1 ≤ x.toInt ∧ x.toInt ≤ p.toInt - 1) := fun q => isIn_p.mpr ⟨(fa_le (-1) x).mpr q.1, (fa_le _ _).mpr (by rw [hp]; exact q.2)⟩ c1
      rw [if_neg (by rw [e1]; omega)]
      by_cases c2 : x < 0
      · rw [if_pos c2]
      · rw [if_neg c2, if_pos ((fa_le _ _).mpr (by rw [fa_lt] at c2; have c2 : ¬ x.toInt < 0 := c2; omega))]
    · rw [if_neg c1]
      have b := isIn_b c1
      rw [hp] at b
      have b : -1 ≤ x.toInt ∧ x.toInt ≤ p.toInt - 1 := b
      by_cases c2 : x = -1
      · rw [if_pos c2, if_pos c2]
      · rw [if_neg c2, if_neg c2]
        rw [e1] at c2
        rw [if_neg (by rw [fa_lt]; show ¬ x.toInt < 0; omega), if_neg (by rw [fa_le]; omega), if_pos (by rw [fa_lt]; show 0 < p.toInt; omega)]
        by_cases c3 : x = 0
        · rw [if_neg (fun q => q c3), if_neg (by rw [c3]; decide)]
          have : (p - 1).toInt64 = p.toInt64 - 1 := by
            rw [fa_eq64, Int32.toInt_toInt64, hp, i64_sub (Int32.toInt_toInt64 p) (show (1 : Int64).toInt = 1 from rfl) ⟨by omega, by omega⟩]
          rw [this]
          generalize p.toInt64 = p9
          generalize z / p9 = d
          grind
        · rw [if_pos c3, if_pos (by rw [fa_lt]; show 0 < x.toInt; have : ¬ x.toInt = 0 := fun q => c3 ((fa_eq _ _).mpr q); omega)]
end PD
