/-! pure: a week settled, on both sides -/
section PS
def okE (N : Nat) (E : Nat → zD) (dh : Nat) : Prop := (∀ e, e < dh → (0 ≤ (E e).1.toInt ∧ (E e).1.toInt ≤ 90) ∧ (0 ≤ (E e).2.1.toInt ∧ (E e).2.1.toInt ≤ 100) ∧ (1 ≤ (E e).2.2.1.toInt ∧ (E e).2.2.1.toInt ≤ 1000000) ∧ (0 ≤ (E e).2.2.2.1.toInt ∧ (E e).2.2.2.1.toInt ≤ (N : Int))) ∧ (∀ e, e + 1 < dh → (E (e + 1)).1.toInt < (E e).1.toInt)
theorem okE.mono {N M : Nat} {E : Nat → zD} {dh : Nat} (h : okE N E dh) (hNM : N ≤ M) : okE M E dh := ⟨fun e he => by have := h.1 e he; omega, h.2⟩
theorem wl_eq {S T : Nat → Bool} {W U : Nat → Nat} {E : Nat → zD} {N dh d : Nat} (hE : okE N E dh) (hd : d < dh) (hU : ∀ m, U m ≤ 9) (hw : ∀ n, wt W n = wt U n) (e : eqS S T) : x_wl T U E d = nI (fb_ct (btw S W (E d).1.toInt64 (if d = 0 then 1000 else (E (d - 1)).1.toInt64 - 1)) 16384) := by
  rw [btw_eq hw e]
  unfold x_wl
  have h1 := hE.1 d hd
  by_cases c : d = 0
  · rw [if_pos c, if_pos c]
    subst c
    rw [from_top T hU (a := (E 0).1) (by rw [Int32.toInt_toInt64])]
  · rw [if_neg c, if_neg c]
    obtain ⟨t, rfl⟩ : ∃ t, d = t + 1 := ⟨d - 1, by omega⟩
    have h2 := hE.1 t (by omega)
    have h3 := hE.2 t hd
    rw [show t + 1 - 1 = t from rfl]
    have g : ((E t).1.toInt64 - 1).toInt = (E t).1.toInt - 1 := i64_sub (Int32.toInt_toInt64 _) rfl ⟨by omega, by omega⟩
    exact nI_subs (from_sub T hU (a := (E (t + 1)).1) (b := (E t).1) (by rw [Int32.toInt_toInt64]) (by rw [g]; omega) (by omega)) (by have := from_le T U (E (t + 1)).1; omega)
theorem wc_eq {LN PR PA VD : Nat → Int32} {K : Nat → Int32 × Int32 × Int32 × Int32} {cf : Nat → Nat → Int64} {W U : Nat → Nat} {E : Nat → zD} {N dh d q : Nat} (hE : okE N E dh) (hd : d < dh) (hU : ∀ m, U m ≤ 9) (hw : ∀ n, wt W n = wt U n) (hK : K q = (nI (fb_ct (lb (cf q)) 16384), PR q, PA q, VD q)) (e : eqS (hs9 LN q) (lb (cf q))) (hp : 1 ≤ (PR q).toInt ∧ (PR q).toInt ≤ 100) : x_wc K cf U E d q = wcM LN PR VD W E d q ∧ 0 ≤ (wcM LN PR VD W E d q).toInt ∧ (wcM LN PR VD W E d q).toInt ≤ 1638400 := by
  unfold x_wc wcM bwM
  rw [hK, wl_eq hE hd hU hw e]
  refine ⟨rfl, ?_⟩
  by_cases c : VD q = 0
  · rw [if_pos c]
    generalize hz : fb_ct (btw (hs9 LN q) W (E d).1.toInt64 (if d = 0 then 1000 else (E (d - 1)).1.toInt64 - 1)) 16384 = z
    have hz2 : z ≤ 16384 := by rw [← hz]; exact fb_ct_le _ _
    have n1 : (nI z).toInt64.toInt = (z : Int) := nIL (by omega)
    have hb : 0 ≤ (z : Int) * (PR q).toInt ∧ (z : Int) * (PR q).toInt ≤ 1638400 := by
      constructor
      · exact Int.mul_nonneg (by omega) (by omega)
      · calc (z : Int) * (PR q).toInt ≤ 16384 * 100 := Int.mul_le_mul (by omega) hp.2 (by omega) (by omega)
          _ = 1638400 := by decide
    rw [i64_mul n1 (Int32.toInt_toInt64 (PR q)) ⟨by omega, by omega⟩]
    exact hb
  · rw [if_neg c]; exact ⟨by decide, by decide⟩
theorem sumL_z {f : Nat → Int64} : ∀ {n : Nat}, n ≤ 20 → (∀ q, q < n → 0 ≤ (f q).toInt ∧ (f q).toInt ≤ 1638400) → (sumL f n).toInt = 0 → ∀ q, q < n → (f q).toInt = 0
  | 0, _, _, _, q, hq => absurd hq (Nat.not_lt_zero q)
  | n + 1, hn, h, h0, q, hq => by
    have b := sumL_b (B := 1638400) (by decide) (n := n) (by omega) (fun q hq => h q (by omega))
    have h1 := h n (by omega)
    have s := i64_add (rfl : (sumL f n).toInt = _) (rfl : (f n).toInt = _) ⟨by omega, by omega⟩
    rw [show sumL f (n + 1) = sumL f n + f n from rfl, s] at h0
    by_cases c : q = n
    · subst c; omega
    · exact sumL_z (n := n) (by omega) (fun q hq => h q (by omega)) (by omega) q (by omega)
/-- what a settled dividend is: the coin, the pay, the rest -/
theorem pay_b {ST : Int64} {ha un : Int32} {E : Nat → zD} {win : Nat → Int64} {N dh d : Nat} (hE : okE N E dh) (hd : d < dh) (hN : N ≤ 90000000000) (hST : 0 ≤ ST.toInt ∧ ST.toInt ≤ 32768000) (hha : 0 ≤ ha.toInt ∧ ha.toInt ≤ 100) (hun : 1 ≤ un.toInt ∧ un.toInt ≤ 1000) (hwin : 0 ≤ (win d).toInt ∧ (win d).toInt ≤ 32768000) :
    ∃ y : Nat, (w_coin (w_pool ST ha) win un E d).toInt = y ∧ y ≤ 1000000 ∧ (w_pay (w_pool ST ha) win un E d).toInt = y * (win d).toInt ∧ 0 ≤ (w_fin (w_pool ST ha) win un E d).2.2.2.1.toInt ∧ (w_fin (w_pool ST ha) win un E d).2.2.2.1.toInt ≤ (N + 32768000 : Nat) := by
  obtain ⟨x, hx⟩ := Int.eq_ofNat_of_zero_le hST.1
  obtain ⟨p, hp, hp2⟩ := pool_b hx (by omega) hha
  have h1 := hE.1 d hd
  obtain ⟨t, ht, ht2⟩ := part_b (E := E) (d := d) hp (by omega) h1.2.1
  obtain ⟨c9, hc9⟩ := Int.eq_ofNat_of_zero_le h1.2.2.2.1
  obtain ⟨w, hw⟩ := Int.eq_ofNat_of_zero_le hwin.1
  have hk : ((E d).2.2.2.1 + w_part (w_pool ST ha) E d).toInt = ((c9 + t : Nat) : Int) := by
    rw [i64_add hc9 ht ⟨by omega, by omega⟩]; omega
  obtain ⟨y, hy, hy2, hy3⟩ := coin_b (c := (E d).2.2.1) (u := un) hk (by omega) hw (by omega) h1.2.2.1 hun
  have hyw : ((y * w : Nat) : Int) = (y : Int) * (w : Int) := Int.natCast_mul y w
  have m : (x_coin ((E d).2.2.2.1 + w_part (w_pool ST ha) E d) (win d) (E d).2.2.1 un * win d).toInt = (y : Int) * (w : Int) := i64_mul hy hw ⟨by omega, by omega⟩
  have f : (w_fin (w_pool ST ha) win un E d).2.2.2.1.toInt = ((c9 + t : Nat) : Int) - (y : Int) * (w : Int) := i64_sub hk m ⟨by omega, by omega⟩
  refine ⟨y, hy, hy2, by rw [hw]; exact m, ?_, ?_⟩
  · rw [f]; omega
  · rw [f]; omega
theorem Z_eq {ST : Int64} {ha un : Int32} {E : Nat → zD} {winC winM : Nat → Int64} {wcC wcN : Nat → Nat → Int64} {Z : Nat → Int64} {N dh ch : Nat} (hch : ch ≤ 20) (hE : okE N E dh) (hN : N ≤ 90000000000) (hST : 0 ≤ ST.toInt ∧ ST.toInt ≤ 32768000) (hha : 0 ≤ ha.toInt ∧ ha.toInt ≤ 100) (hun : 1 ≤ un.toInt ∧ un.toInt ≤ 1000)
    (hwin : ∀ d, d < dh → winC d = winM d) (hwc : ∀ d, d < dh → ∀ q, q < ch → wcC d q = wcN d q ∧ 0 ≤ (wcN d q).toInt ∧ (wcN d q).toInt ≤ 1638400) (hs : ∀ d, d < dh → winC d = sumL (wcC d) ch) (hZ : ∀ q, q < ch → Z q = 0) :
    ∀ d, d ≤ dh → ∀ q, q < ch → w_Z (w_pool ST ha) winC un E wcC ch Z d q = zzM (w_pool ST ha) winM un E wcN d q
  | 0, _, q, hq => hZ q hq
  | d + 1, hd, q, hq => by
    have ih := Z_eq hch hE hN hST hha hun hwin hwc hs hZ d (by omega) q hq
    have hb : ∀ q, q < ch → 0 ≤ (wcC d q).toInt ∧ (wcC d q).toInt ≤ 1638400 := fun q hq => by rw [(hwc d (by omega) q hq).1]; exact (hwc d (by omega) q hq).2
    have sb := sumL_b (f := wcC d) (B := 1638400) (by decide) hch hb
    rw [← hs d (by omega)] at sb
    obtain ⟨y, hy, hy2, hy3, -, -⟩ := pay_b (ST := ST) (ha := ha) (un := un) (win := winC) hE (show d < dh by omega) hN hST hha hun (by omega)
    have ec : w_coin (w_pool ST ha) winM un E d = w_coin (w_pool ST ha) winC un E d := by unfold w_coin; rw [hwin d (by omega)]
    rw [zzM, ← ih, ec, ← (hwc d (by omega) q hq).1, w_Z]
    by_cases c : 0 < w_pay (w_pool ST ha) winC un E d
    · rw [if_pos c, mx_lt hq]
    · rw [if_neg c]
      rw [fa_lt64, hy3] at c
      have c : ¬ (0 : Int) < (y : Int) * (winC d).toInt := c
      have hz : w_coin (w_pool ST ha) winC un E d * wcC d q = 0 := by
        rw [fa_eq64]
        have hbq := hb q hq
        have : (y : Int) * (wcC d q).toInt = 0 := by
          by_cases y0 : y = 0
          · subst y0; simp
          · have w0 : (winC d).toInt = 0 := by
              have : ¬ 0 < (winC d).toInt := fun w => c (Int.mul_pos (by omega) w)
              omega
            rw [hs d (by omega)] at w0
            rw [sumL_z hch hb w0 q hq, Int.mul_zero]
        rw [i64_mul hy rfl (by rw [this]; decide), this]; rfl
      rw [hz, Int64.add_zero]
theorem fin_E {ST : Int64} {ha un : Int32} {E : Nat → zD} {win : Nat → Int64} {N dh : Nat} (hE : okE N E dh) (hN : N ≤ 90000000000) (hST : 0 ≤ ST.toInt ∧ ST.toInt ≤ 32768000) (hha : 0 ≤ ha.toInt ∧ ha.toInt ≤ 100) (hun : 1 ≤ un.toInt ∧ un.toInt ≤ 1000) (hwin : ∀ d, d < dh → 0 ≤ (win d).toInt ∧ (win d).toInt ≤ 32768000) : okE (N + 32768000) (mx (w_fin (w_pool ST ha) win un E) E dh) dh := by
  refine ⟨fun e he => ?_, fun e he => ?_⟩
  · rw [mx_lt he]
    have h1 := hE.1 e he
    obtain ⟨y, -, -, -, h2, h3⟩ := pay_b (ST := ST) (ha := ha) (un := un) (win := win) hE he hN hST hha hun (hwin e he)
    exact ⟨h1.1, h1.2.1, h1.2.2.1, h2, h3⟩
  · rw [mx_lt he, mx_lt (by omega)]
    exact hE.2 e he
end PS
