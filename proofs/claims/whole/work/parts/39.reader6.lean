/-! the plan's grammar, without a machine -/
def altL (P : Nat → pR) (x : Nat → Int32) : Nat → Nat → (Nat → Prop) → pR
  | 0, p, S => .inr (p, S)
  | k + 1, p, S => if x p = 43 then (match P (p + 1) with | .inl e => .inl e | .inr (q, U) => altL P x k q (opS 43 S U)) else .inr (p, S)
def alt (P : Nat → pR) (x : Nat → Int32) (p : Nat) : pR := match P p with | .inl e => .inl e | .inr (q, S) => altL P x 200 q S
def plnL (P : Nat → pR) (x : Nat → Int32) : Nat → Nat → (Nat → Prop) → pR
  | 0, p, S => .inr (p, S)
  | k + 1, p, S => if ¬ x_sign (x p) = 0 then (match P (p + 1) with | .inl e => .inl e | .inr (q, U) => plnL P x k q (opS (x p) S U)) else .inr (p, S)
def pln (P : Nat → pR) (x : Nat → Int32) (p : Nat) : pR := match P p with | .inl e => .inl e | .inr (q, S) => plnL P x 200 q S
def brk (P : Nat → pR) (x : Nat → Int32) (p : Nat) : pR := match P (p + 1) with | .inl e => .inl e | .inr (q, S) => if x q = 41 then .inr (q + 1, S) else .inl (1, q)
def prt (x : Nat → Int32) : Nat → Nat → pR
  | 0 => fun p => if x p = 40 then .inl (3, p) else cho x p
  | d + 1 => fun p => if x p = 40 then brk (pln (alt (prt x d) x) x) x p else cho x p
def brd (x : Nat → Int32) : Nat → Nat → pR
  | 0 => fun p => .inl (3, p)
  | d + 1 => brk (pln (alt (prt x d) x) x) x
theorem prt_eq (x : Nat → Int32) (d p : Nat) : prt x d p = if x p = 40 then brd x d p else cho x p := by cases d <;> rfl
theorem sign_is {v : Int32} (h : ¬ x_sign v = 0) : v = 124 ∨ v = 38 ∨ v = 45 ∨ v = 43 := by
  unfold x_sign at h
  by_cases h1 : v = 124
  · exact Or.inl h1
  · by_cases h2 : v = 38
    · exact Or.inr (Or.inl h2)
    · rw [if_neg h1, if_neg h2] at h
      by_cases h3 : v = 45
      · exact Or.inr (Or.inr (Or.inl h3))
      · rw [if_pos h3] at h; exact absurd rfl h
def ends (n : Nat) (P : Nat → pR) : Prop := ∀ p q S, P p = .inr (q, S) → p < q ∧ q ≤ n
theorem altL_end {B : Nat → Int32} {n : Nat} {P : Nat → pR} (hP : ends n P) : ∀ {k p q : Nat} {S U : Nat → Prop}, p ≤ n → altL P (txt B n) k p S = .inr (q, U) → p ≤ q ∧ q ≤ n
  | 0, p, q, S, U, hp, h => by rw [altL] at h; cases h; exact ⟨Nat.le_refl _, hp⟩
  | k + 1, p, q, S, U, hp, h => by
    rw [altL] at h
    by_cases h1 : txt B n p = 43
    · rw [if_pos h1] at h
      cases h2 : P (p + 1) with
      | inl e => rw [h2] at h; cases h
      | inr v =>
        obtain ⟨q2, U2⟩ := v
        rw [h2] at h
        obtain ⟨h3, h4⟩ := hP _ _ _ h2
        have h5 := altL_end hP h4 h
        omega
    · rw [if_neg h1] at h; cases h; exact ⟨Nat.le_refl _, hp⟩
theorem alt_end {B : Nat → Int32} {n : Nat} {P : Nat → pR} (hP : ends n P) : ends n (alt P (txt B n)) := by
  intro p q S h
  unfold alt at h
  cases h2 : P p with
  | inl e => rw [h2] at h; cases h
  | inr v =>
    obtain ⟨q2, U2⟩ := v
    rw [h2] at h
    obtain ⟨h3, h4⟩ := hP _ _ _ h2
    have h5 := altL_end hP h4 h
    omega
theorem plnL_end {B : Nat → Int32} {n : Nat} {P : Nat → pR} (hP : ends n P) : ∀ {k p q : Nat} {S U : Nat → Prop}, p ≤ n → plnL P (txt B n) k p S = .inr (q, U) → p ≤ q ∧ q ≤ n
  | 0, p, q, S, U, hp, h => by rw [plnL] at h; cases h; exact ⟨Nat.le_refl _, hp⟩
  | k + 1, p, q, S, U, hp, h => by
    rw [plnL] at h
    by_cases h1 : ¬ x_sign (txt B n p) = 0
    · rw [if_pos h1] at h
      cases h2 : P (p + 1) with
      | inl e => rw [h2] at h; cases h
      | inr v =>
        obtain ⟨q2, U2⟩ := v
        rw [h2] at h
        obtain ⟨h3, h4⟩ := hP _ _ _ h2
        have h5 := plnL_end hP h4 h
        omega
    · rw [if_neg h1] at h; cases h; exact ⟨Nat.le_refl _, hp⟩
theorem pln_end {B : Nat → Int32} {n : Nat} {P : Nat → pR} (hP : ends n P) : ends n (pln P (txt B n)) := by
  intro p q S h
  unfold pln at h
  cases h2 : P p with
  | inl e => rw [h2] at h; cases h
  | inr v =>
    obtain ⟨q2, U2⟩ := v
    rw [h2] at h
    obtain ⟨h3, h4⟩ := hP _ _ _ h2
    have h5 := plnL_end hP h4 h
    omega
theorem prt_end {B : Nat → Int32} {n : Nat} : ∀ d, ends n (prt (txt B n) d)
  | 0 => fun p q S h => by
    rw [prt_eq] at h
    by_cases h1 : txt B n p = 40
    · rw [if_pos h1] at h; cases h
    · rw [if_neg h1] at h; exact cho_end h
  | d + 1 => fun p q S h => by
    rw [prt_eq] at h
    by_cases h1 : txt B n p = 40
    · rw [if_pos h1, brd, brk] at h
      cases h2 : pln (alt (prt (txt B n) d) (txt B n)) (txt B n) (p + 1) with
      | inl e => rw [h2] at h; cases h
      | inr v =>
        obtain ⟨q2, U2⟩ := v
        rw [h2] at h
        obtain ⟨h3, h4⟩ := pln_end (alt_end (prt_end d)) _ _ _ h2
        dsimp only at h
        by_cases h5 : txt B n q2 = 41
        · rw [if_pos h5] at h; cases h
          have := txt_in h5 (by decide)
          omega
        · rw [if_neg h5] at h; cases h
    · rw [if_neg h1] at h; exact cho_end h
theorem opS_cong {sg : Int32} {S S2 U U2 : Nat → Prop} (h1 : ∀ q, q < 16384 → (S q ↔ S2 q)) (h2 : ∀ q, q < 16384 → (U q ↔ U2 q)) {q : Nat} (hq : q < 16384) : opS sg S U q ↔ opS sg S2 U2 q := by
  unfold opS
  split
  · rw [h1 q hq, h2 q hq]
  · split
    · rw [h1 q hq, h2 q hq]
    · split
      · rw [h1 q hq, h2 q hq]
      · constructor
        · rintro ⟨l, l1, l2, k, k1, k2, k3, k4⟩
          exact ⟨l, l1, (h1 l l1).mp l2, k, k1, (h2 k k1).mp k2, k3, k4⟩
        · rintro ⟨l, l1, l2, k, k1, k2, k3, k4⟩
          exact ⟨l, l1, (h1 l l1).mpr l2, k, k1, (h2 k k1).mpr k2, k3, k4⟩
theorem RP_v {h h2 : zH} {a t tb ss n k : Nat} {B : Nat → Int32} {fk fp : Int32} {T : Nat → zS} {res : pR} {v : Option Value} (r : RP h a t tb ss n B k fk fp T res v h2) : (∃ b : Int32, (b = 0 ∨ b = 1) ∧ v = some (.int b)) ∧ h2.2.1 ≤ h.2.1 + 2 * nn T 16 ∧ h2.2.2 ≤ h.2.2 + 257 * nn T 16 := by
  rcases r with ⟨kd, pl, hg2, at2, sp2, G2, T2, e, rfl, -, -, b1, b2⟩ | ⟨q, S, sp2, G2, T2, e, rfl, -, -, ⟨b1, b2⟩, -⟩
  · exact ⟨⟨0, Or.inl rfl, rfl⟩, by omega, by omega⟩
  · exact ⟨⟨1, Or.inr rfl, rfl⟩, by omega, by omega⟩
/-- a set stands on the stack's top -/
def RG (h : zH) (a t tb ss n : Nat) (B : Nat → Int32) (k : Nat) (fk fp : Int32) (T : Nat → zS) (q : Nat) (S : Nat → Prop) (h2 : zH) : Prop := ∃ sp2 G2 T2, RW h2 a t tb ss n B (nI (k + 1)) (nI q) fk fp sp2 G2 T2 ∧ fr (ow a ss T) (ow a ss T2) h h2 ∧ bud h T h2 T2 ∧ (∀ j, j < k → T2 j = T j) ∧ ∃ s w f, T2 k = some (s, w, f) ∧ ∀ m, m < 16384 → (lb f m = true ↔ S m)
theorem RG_P {h h2 : zH} {a t tb ss n k q : Nat} {B : Nat → Int32} {fk fp : Int32} {T : Nat → zS} {S : Nat → Prop} {res : pR} (r : RG h a t tb ss n B k fk fp T q S h2) (e : res = .inr (q, S)) : RP h a t tb ss n B k fk fp T res (some (.int 1)) h2 := by
  obtain ⟨sp2, G2, T2, r1, r2, r3, r4, r5⟩ := r
  exact Or.inr ⟨q, S, sp2, G2, T2, e, rfl, r1, r2, r3, r4, r5⟩

def CPart (F : zF) (d : Nat) : Prop := ∀ (h : zH) (a t tb ss n : Nat) (B : Nat → Int32) (fk fp : Int32) (sp : Option Nat) (G : Nat → Option Nat) (T : Nat → zS) (k p o : Nat), RW h a t tb ss n B (nI k) (nI p) fk fp sp G T → o + d = 6 → k ≤ 2 * o + 2 → n ≤ 200 → p ≤ 200 → zMet F yX4_readPart cX4_readPart 2 (some .boolean) { frames := 6 + 4 * d, cells := 2 * nn T 16, slots := 257 * nn T 16, locals := 180 + 120 * d } [.ref a, .int (nI o)] h (RP h a t tb ss n B k fk fp T (prt (txt B n) d p))
def CAlt (F : zF) (d : Nat) : Prop := ∀ (h : zH) (a t tb ss n : Nat) (B : Nat → Int32) (fk fp : Int32) (sp : Option Nat) (G : Nat → Option Nat) (T : Nat → zS) (k p o : Nat), RW h a t tb ss n B (nI k) (nI p) fk fp sp G T → o + d = 6 → k ≤ 2 * o + 1 → n ≤ 200 → p ≤ 200 → zMet F yX4_readAlternative cX4_readAlternative 3 (some .boolean) { frames := 7 + 4 * d, cells := 2 * nn T 16, slots := 257 * nn T 16, locals := 210 + 120 * d } [.ref a, .int (nI o)] h (RP h a t tb ss n B k fk fp T (alt (prt (txt B n) d) (txt B n) p))
def CPln (F : zF) (d : Nat) : Prop := ∀ (h : zH) (a t tb ss n : Nat) (B : Nat → Int32) (fk fp : Int32) (sp : Option Nat) (G : Nat → Option Nat) (T : Nat → zS) (k p o : Nat), RW h a t tb ss n B (nI k) (nI p) fk fp sp G T → o + d = 6 → k ≤ 2 * o → n ≤ 200 → p ≤ 200 → zMet F yX4_readPlan cX4_readPlan 4 (some .boolean) { frames := 8 + 4 * d, cells := 2 * nn T 16, slots := 257 * nn T 16, locals := 240 + 120 * d } [.ref a, .int (nI o)] h (RP h a t tb ss n B k fk fp T (pln (alt (prt (txt B n) d) (txt B n)) (txt B n) p))
def CBrk (F : zF) (d : Nat) : Prop := ∀ (h : zH) (a t tb ss n : Nat) (B : Nat → Int32) (fk fp : Int32) (sp : Option Nat) (G : Nat → Option Nat) (T : Nat → zS) (k p o : Nat), RW h a t tb ss n B (nI k) (nI p) fk fp sp G T → o + d = 6 → k ≤ 2 * o + 2 → n ≤ 200 → p ≤ 200 → txt B n p = 40 → zMet F yX4_readInBrackets cX4_readInBrackets 2 (some .boolean) { frames := 5 + 4 * d, cells := 2 * nn T 16, slots := 257 * nn T 16, locals := 150 + 120 * d } [.ref a, .int (nI o)] h (RP h a t tb ss n B k fk fp T (brd (txt B n) d p))

set_option maxRecDepth 100000 in
set_option maxHeartbeats 4000000 in
theorem c_PR_part {F : zF} {h : zH} {d : Nat} (hB : CBrk F d) {a t tb ss n : Nat} {B : Nat → Int32} {fk fp : Int32} {sp : Option Nat} {G : Nat → Option Nat} {T : Nat → zS} {k p o : Nat} (r : RW h a t tb ss n B (nI k) (nI p) fk fp sp G T) (ho : o + d = 6) (hk : k ≤ 2 * o + 2) (hn : n ≤ 200) (hp : p ≤ 200) : zMet F yX4_readPart cX4_readPart 2 (some .boolean) { frames := 6 + 4 * d, cells := 2 * nn T 16, slots := 257 * nn T 16, locals := 180 + 120 * d } [.ref a, .int (nI o)] h (RP h a t tb ss n B k fk fp T (prt (txt B n) d p)) := by
  refine zMet_of (lv := [(0, .ref a), (1, .int (nI o))]) (by decide) (by simp [lg_sl, Value.category]) rfl ?_
  intro X g z
  obtain ⟨ha, ht, hb, hss, hsp, hG, hl⟩ := id r
  refine v_blk g [.aload_n 0] (pc' := 1) (lv' := [(0, .ref a), (1, .int (nI o))]) (st' := [.ref a]) (by decide +kernel) rfl rfl ?_
  refine v_get g ha fl_X4_9 rfl (by decide +kernel) ?_
  refine v_blk g [.aload_n 0] (pc' := 5) (lv' := [(0, .ref a), (1, .int (nI o))]) (st' := [.ref a, .ref t]) (by decide +kernel) rfl rfl ?_
  refine v_get g ha fl_X4_29 rfl (by decide +kernel) ?_
  refine v_callVp g (rest := []) (c_Tape_byteAt ht hb _ hn) cl_X4_59 ht rfl rfl (Nat.le_of_ble_eq_true rfl) (by decide +kernel) ⟨by dsimp only; omega, by dsimp only; omega⟩ (zcsn 0 0 rfl rfl (by dsimp only; omega) (by dsimp only; omega)) ?_
  show zV F X h 11 [(0, .ref a), (1, .int (nI o))] [.int (x_byteAt B n (nI p))]
  refine v_ti (z := txt B n p) (txt_at (by omega) (by omega)) ?_
  refine v_blk g [.bipush 40] (pc' := 13) (lv' := [(0, .ref a), (1, .int (nI o))]) (st' := [.int (40 : Int32), .int (txt B n p)]) (by decide +kernel) rfl rfl ?_
  refine v_icmp_ne g (off := 11) (tgt := 24) (by decide +kernel) (by decide) (fun c => ?_) (fun c => ?_)
  · refine v_blk g [.aload_n 0] (pc' := 25) (lv' := [(0, .ref a), (1, .int (nI o))]) (st' := [.ref a]) (by decide +kernel) rfl rfl ?_
    refine v_callV g (rest := []) (c_PR_choices r (by omega) hn hp) cl_X4_76 ha rfl rfl (Nat.le_of_ble_eq_true rfl) (by decide +kernel) ⟨by dsimp only; omega, by dsimp only; omega⟩ (zcsn 0 0 rfl rfl (by dsimp only; omega) (by dsimp only; omega)) (fun v9 h9 q9 => ?_)
    obtain ⟨⟨b, b01, rfl⟩, c1, c2⟩ := RP_v q9
    show zV F X h9 28 [(0, .ref a), (1, .int (nI o))] [.int b]
    exact v_zret g z rfl b01 (by decide +kernel) (by rw [prt_eq, if_neg c]; exact q9) ⟨by dsimp only; omega, by dsimp only; omega⟩
  · refine v_blk g [.aload_n 0, .iload_n 1] (pc' := 18) (lv' := [(0, .ref a), (1, .int (nI o))]) (st' := [.int (nI o), .ref a]) (by decide +kernel) rfl rfl ?_
    refine v_callV g (rest := []) (hB h a t tb ss n B fk fp sp G T k p o r ho hk hn hp c) cl_X4_73 ha rfl rfl (Nat.le_of_ble_eq_true rfl) (by decide +kernel) ⟨by dsimp only; omega, by dsimp only; omega⟩ (zcsn 0 0 rfl rfl (by dsimp only; omega) (by dsimp only; omega)) (fun v9 h9 q9 => ?_)
    obtain ⟨⟨b, b01, rfl⟩, c1, c2⟩ := RP_v q9
    show zV F X h9 21 [(0, .ref a), (1, .int (nI o))] [.int b]
    refine v_goto g (off := 7) (tgt := 28) (by decide +kernel) (by decide) ?_
    exact v_zret g z rfl b01 (by decide +kernel) (by rw [prt_eq, if_pos c]; exact q9) ⟨by dsimp only; omega, by dsimp only; omega⟩

set_option maxRecDepth 100000 in
set_option maxHeartbeats 4000000 in
theorem c_PR_brk0 {F : zF} {h : zH}  {a t tb ss n : Nat} {B : Nat → Int32} {fk fp : Int32} {sp : Option Nat} {G : Nat → Option Nat} {T : Nat → zS} {k p o : Nat} (r : RW h a t tb ss n B (nI k) (nI p) fk fp sp G T) (ho : o = 6) (hk : k ≤ 2 * o + 2) (hn : n ≤ 200) (hp : p ≤ 200) : zMet F yX4_readInBrackets cX4_readInBrackets 2 (some .boolean) { frames := 5 + 4 * 0, cells := 2 * nn T 16, slots := 257 * nn T 16, locals := 150 + 120 * 0 } [.ref a, .int (nI o)] h (RP h a t tb ss n B k fk fp T (brd (txt B n) 0 p)) := by
  refine zMet_of (lv := [(0, .ref a), (1, .int (nI o))]) (by decide) (by simp [lg_sl, Value.category]) rfl ?_
  intro X g z
  obtain ⟨ha, ht, hb, hss, hsp, hG, hl⟩ := id r
  refine v_blk g [.iload_n 1, .bipush 6] (pc' := 3) (lv' := [(0, .ref a), (1, .int (nI o))]) (st' := [.int (6 : Int32), .int (nI o)]) (by decide +kernel) rfl rfl ?_
  refine v_icmp_lt g (off := 13) (tgt := 16) (by decide +kernel) (by decide) (fun c => absurd c (fun q => absurd ((nI_lti (b := 6) (by omega) (by decide)).mp q) (by omega))) (fun _ => ?_)
  refine v_blk g [.aload_n 0, .iconst 3, .aload_n 0] (pc' := 9) (lv' := [(0, .ref a), (1, .int (nI o))]) (st' := [.ref a, .int (3 : Int32), .ref a]) (by decide +kernel) rfl rfl ?_
  refine v_get g ha fl_X4_29 rfl (by decide +kernel) ?_
  refine v_callVp g (rest := []) (c_PR_stopAt ha _ _) cl_X4_47 ha rfl rfl (Nat.le_of_ble_eq_true rfl) (by decide +kernel) ⟨by dsimp only; omega, by dsimp only; omega⟩ (zcsn 0 0 rfl rfl (by dsimp only; omega) (by dsimp only; omega)) ?_
  show zV F X (z_s h a (oB 4 [.int 3, .int (nI p), .ref t, .ref ss, va_rf sp, .int (nI k), .int (nI p)])) 15 [(0, .ref a), (1, .int (nI o))] [.int 0]
  exact v_zret g z rfl (by decide) (by decide +kernel) (Or.inl ⟨3, p, nI k, nI p, sp, G, T, rfl, rfl, r.num _ _ _ _, fr_num, bud_s⟩) ⟨by show h.2.1 ≤ _; dsimp only; omega, by show h.2.2 ≤ _; dsimp only; omega⟩

set_option maxRecDepth 100000 in
set_option maxHeartbeats 4000000 in
theorem c_PR_brk {F : zF} {h : zH} {d : Nat} (hP : CPln F d) {a t tb ss n : Nat} {B : Nat → Int32} {fk fp : Int32} {sp : Option Nat} {G : Nat → Option Nat} {T : Nat → zS} {k p o : Nat} (r : RW h a t tb ss n B (nI k) (nI p) fk fp sp G T) (ho : o + (d + 1) = 6) (hk : k ≤ 2 * o + 2) (hn : n ≤ 200) (hp : p ≤ 200) (c0 : txt B n p = 40) : zMet F yX4_readInBrackets cX4_readInBrackets 2 (some .boolean) { frames := 5 + 4 * (d + 1), cells := 2 * nn T 16, slots := 257 * nn T 16, locals := 150 + 120 * (d + 1) } [.ref a, .int (nI o)] h (RP h a t tb ss n B k fk fp T (brd (txt B n) (d + 1) p)) := by
  refine zMet_of (lv := [(0, .ref a), (1, .int (nI o))]) (by decide) (by simp [lg_sl, Value.category]) rfl ?_
  intro X g z
  obtain ⟨ha, ht, hb, hss, hsp, hG, hl⟩ := id r
  have p9 := txt_in c0 (by decide)
  refine v_blk g [.iload_n 1, .bipush 6] (pc' := 3) (lv' := [(0, .ref a), (1, .int (nI o))]) (st' := [.int (6 : Int32), .int (nI o)]) (by decide +kernel) rfl rfl ?_
  refine v_icmp_lt g (off := 13) (tgt := 16) (by decide +kernel) (by decide) (fun _ => ?_) (fun c => absurd c (fun q => q (nI_lt (b := 6) (by omega) (by decide))))
  refine v_blk g [.aload_n 0, .dup] (pc' := 18) (lv' := [(0, .ref a), (1, .int (nI o))]) (st' := [.ref a, .ref a]) (by decide +kernel) rfl rfl ?_
  refine v_get g ha fl_X4_29 rfl (by decide +kernel) ?_
  refine v_blk g [.iconst 1, .iadd] (pc' := 23) (lv' := [(0, .ref a), (1, .int (nI o))]) (st' := [.int ((nI p) + (1 : Int32)), .ref a]) (by decide +kernel) rfl rfl ?_
  refine v_ti (z := nI (p + 1)) (nI_1 _) ?_
  refine v_put g (fs' := [.int fk, .int fp, .ref t, .ref ss, va_rf sp, .int (nI k), .int (nI (p + 1))]) ha fl_X4_29 rfl rfl (Nat.le_of_ble_eq_true rfl) rfl (by decide +kernel) ?_
  refine v_h (fun h1 eh1 => ?_)
  have h1_c : h1.2.1 = h.2.1 + 0 ∧ h1.2.2 = h.2.2 + 0 := zcs eh1 ⟨rfl, rfl⟩
  have h1_a : h1.1 a = some (oB 4 [.int fk, .int fp, .ref t, .ref ss, va_rf sp, .int (nI k), .int (nI (p + 1))]) := by rw [eh1]; exact z_s_self _ _ _
  have h1_ss : h1.1 ss = some (aQ 3 15 G) := by rw [eh1]; exact z_so hss (Ne.symm (z_ne ha hss rfl))
  have h1_t : h1.1 t = some (oB 6 [.ref tb, .int (nI n)]) := by rw [eh1]; exact z_so ht (Ne.symm (z_ne ha ht rfl))
  have h1_tb : h1.1 tb = some (aI 200 B) := by rw [eh1]; exact z_so hb (Ne.symm (z_ne ha hb rfl))
  refine v_blk g [.aload_n 0, .iload_n 1, .iconst 1, .iadd] (pc' := 30) (lv' := [(0, .ref a), (1, .int (nI o))]) (st' := [.int ((nI o) + (1 : Int32)), .ref a]) (by decide +kernel) rfl rfl ?_
  refine v_ti (z := nI (o + 1)) (nI_1 _) ?_
  have r1 : RW h1 a t tb ss n B (nI k) (nI (p + 1)) fk fp sp G T := by rw [eh1]; exact r.num _ _ _ _
  refine v_callV g (rest := []) (hP h1 a t tb ss n B fk fp sp G T k (p + 1) (o + 1) r1 (by omega) (by omega) hn (by omega)) cl_X4_38 h1_a rfl rfl (Nat.le_of_ble_eq_true rfl) (by decide +kernel) ⟨by dsimp only; omega, by dsimp only; omega⟩ (zcsn 0 0 h1_c.1 h1_c.2 (by dsimp only; omega) (by dsimp only; omega)) (fun v9 h9 q9 => ?_)
  rcases q9 with ⟨kd, pl, hg2, at2, sp2, G2, T2, e1, rfl, r2, f2, b2⟩ | ⟨q, S, sp2, G2, T2, e1, rfl, r2, f2, b2, o2, x2⟩
  · show zV F X h9 33 [(0, .ref a), (1, .int (nI o))] [.int 0]
    have b3 : bud h T h9 T2 := bud_trans (by rw [eh1]; exact bud_s) b2
    have b4 := b3.1
    have b5 := b3.2
    have f3 : fr (ow a ss T) (ow a ss T2) h h9 := fr_trans (by rw [eh1]; exact fr_num) f2
    refine v_if_ne g (off := 5) (tgt := 38) (by decide +kernel) (by decide) (fun c => absurd c (fun q => q rfl)) (fun _ => ?_)
    refine v_blk g [.iconst 0] (pc' := 37) (lv' := [(0, .ref a), (1, .int (nI o))]) (st' := [.int (0 : Int32)]) (by decide +kernel) rfl rfl ?_
    exact v_zret g z rfl (by decide) (by decide +kernel) (Or.inl ⟨kd, pl, hg2, at2, sp2, G2, T2, by rw [brd, brk, e1], rfl, r2, f3, b3⟩) ⟨by dsimp only; omega, by dsimp only; omega⟩
  · show zV F X h9 33 [(0, .ref a), (1, .int (nI o))] [.int 1]
    have b3 : bud h T h9 T2 := bud_trans (by rw [eh1]; exact bud_s) b2
    have b4 := b3.1
    have b5 := b3.2
    have f3 : fr (ow a ss T) (ow a ss T2) h h9 := fr_trans (by rw [eh1]; exact fr_num) f2
    have q9 : p + 1 < q ∧ q ≤ n := pln_end (alt_end (prt_end d)) _ _ _ e1
    obtain ⟨xa, xt, xb, xs, xp, xg, xl⟩ := id r2
    refine v_if_ne g (off := 5) (tgt := 38) (by decide +kernel) (by decide) (fun _ => ?_) (fun c => absurd c (by decide))
    refine v_blk g [.aload_n 0] (pc' := 39) (lv' := [(0, .ref a), (1, .int (nI o))]) (st' := [.ref a]) (by decide +kernel) rfl rfl ?_
    refine v_get g xa fl_X4_9 rfl (by decide +kernel) ?_
    refine v_blk g [.aload_n 0] (pc' := 43) (lv' := [(0, .ref a), (1, .int (nI o))]) (st' := [.ref a, .ref t]) (by decide +kernel) rfl rfl ?_
    refine v_get g xa fl_X4_29 rfl (by decide +kernel) ?_
    refine v_callVp g (rest := []) (c_Tape_byteAt xt xb _ hn) cl_X4_59 xt rfl rfl (Nat.le_of_ble_eq_true rfl) (by decide +kernel) ⟨by dsimp only; omega, by dsimp only; omega⟩ ⟨by dsimp only; omega, by dsimp only; omega⟩ ?_
    show zV F X h9 49 [(0, .ref a), (1, .int (nI o))] [.int (x_byteAt B n (nI q))]
    refine v_ti (z := txt B n q) (txt_at (by omega) (by omega)) ?_
    refine v_blk g [.bipush 41] (pc' := 51) (lv' := [(0, .ref a), (1, .int (nI o))]) (st' := [.int (41 : Int32), .int (txt B n q)]) (by decide +kernel) rfl rfl ?_
    refine v_icmp_eq g (off := 13) (tgt := 64) (by decide +kernel) (by decide) (fun c => ?_) (fun c => ?_)
    · have q8 := txt_in c (by decide)
      refine v_blk g [.aload_n 0, .dup] (pc' := 66) (lv' := [(0, .ref a), (1, .int (nI o))]) (st' := [.ref a, .ref a]) (by decide +kernel) rfl rfl ?_
      refine v_get g xa fl_X4_29 rfl (by decide +kernel) ?_
      refine v_blk g [.iconst 1, .iadd] (pc' := 71) (lv' := [(0, .ref a), (1, .int (nI o))]) (st' := [.int ((nI q) + (1 : Int32)), .ref a]) (by decide +kernel) rfl rfl ?_
      refine v_ti (z := nI (q + 1)) (nI_1 _) ?_
      refine v_put g (fs' := [.int fk, .int fp, .ref t, .ref ss, va_rf sp2, .int (nI (k + 1)), .int (nI (q + 1))]) xa fl_X4_29 rfl rfl (Nat.le_of_ble_eq_true rfl) rfl (by decide +kernel) ?_
      refine v_blk g [.iconst 1] (pc' := 75) (lv' := [(0, .ref a), (1, .int (nI o))]) (st' := [.int (1 : Int32)]) (by decide +kernel) rfl rfl ?_
      exact v_zret g z rfl (by decide) (by decide +kernel) (Or.inr ⟨q + 1, S, sp2, G2, T2, by rw [brd, brk, e1]; exact if_pos c, rfl, r2.num _ _ _ _, fr_trans f3 fr_num, bud_trans b3 bud_s, o2, x2⟩) ⟨by show h9.2.1 ≤ _; dsimp only; omega, by show h9.2.2 ≤ _; dsimp only; omega⟩
    · refine v_blk g [.aload_n 0, .iconst 1, .aload_n 0] (pc' := 57) (lv' := [(0, .ref a), (1, .int (nI o))]) (st' := [.ref a, .int (1 : Int32), .ref a]) (by decide +kernel) rfl rfl ?_
      refine v_get g xa fl_X4_29 rfl (by decide +kernel) ?_
      refine v_callVp g (rest := []) (c_PR_stopAt xa _ _) cl_X4_47 xa rfl rfl (Nat.le_of_ble_eq_true rfl) (by decide +kernel) ⟨by dsimp only; omega, by dsimp only; omega⟩ ⟨by dsimp only; omega, by dsimp only; omega⟩ ?_
      show zV F X (z_s h9 a (oB 4 [.int 1, .int (nI q), .ref t, .ref ss, va_rf sp2, .int (nI (k + 1)), .int (nI q)])) 63 [(0, .ref a), (1, .int (nI o))] [.int 0]
      exact v_zret g z rfl (by decide) (by decide +kernel) (Or.inl ⟨1, q, nI (k + 1), nI q, sp2, G2, T2, by rw [brd, brk, e1]; exact if_neg c, rfl, r2.num _ _ _ _, fr_trans f3 fr_num, bud_trans b3 bud_s⟩) ⟨by show h9.2.1 ≤ _; dsimp only; omega, by show h9.2.2 ≤ _; dsimp only; omega⟩

set_option maxRecDepth 100000 in
set_option maxHeartbeats 4000000 in
theorem c_PR_alt {F : zF} {h : zH} {d : Nat} (hP : CPart F d) {a t tb ss n : Nat} {B : Nat → Int32} {fk fp : Int32} {sp : Option Nat} {G : Nat → Option Nat} {T : Nat → zS} {k p o : Nat} (r : RW h a t tb ss n B (nI k) (nI p) fk fp sp G T) (ho : o + d = 6) (hk : k ≤ 2 * o + 1) (hn : n ≤ 200) (hp : p ≤ 200) : zMet F yX4_readAlternative cX4_readAlternative 3 (some .boolean) { frames := 7 + 4 * d, cells := 2 * nn T 16, slots := 257 * nn T 16, locals := 210 + 120 * d } [.ref a, .int (nI o)] h (RP h a t tb ss n B k fk fp T (alt (prt (txt B n) d) (txt B n) p)) := by
  refine zMet_of (lv := [(0, .ref a), (1, .int (nI o))]) (by decide) (by simp [lg_sl, Value.category]) rfl ?_
  intro X g z
  obtain ⟨ha, ht, hb, hss, hsp, hG, hl⟩ := id r
  refine v_blk g [.aload_n 0, .iload_n 1] (pc' := 2) (lv' := [(0, .ref a), (1, .int (nI o))]) (st' := [.int (nI o), .ref a]) (by decide +kernel) rfl rfl ?_
  refine v_callV g (rest := []) (hP h a t tb ss n B fk fp sp G T k p o r ho (by omega) hn hp) cl_X4_70 ha rfl rfl (Nat.le_of_ble_eq_true rfl) (by decide +kernel) ⟨by dsimp only; omega, by dsimp only; omega⟩ (zcsn 0 0 rfl rfl (by dsimp only; omega) (by dsimp only; omega)) (fun v9 h9 q9 => ?_)
  rcases q9 with ⟨kd, pl, hg2, at2, sp2, G2, T2, e1, rfl, r2, f2, b2⟩ | ⟨q, S, sp2, G2, T2, e1, rfl, r2, f2, b2, o2, x2⟩
  · show zV F X h9 5 [(0, .ref a), (1, .int (nI o))] [.int 0]
    have b4 := b2.1
    have b5 := b2.2
    refine v_if_ne g (off := 5) (tgt := 10) (by decide +kernel) (by decide) (fun c => absurd c (fun q => q rfl)) (fun _ => ?_)
    refine v_blk g [.iconst 0] (pc' := 9) (lv' := [(0, .ref a), (1, .int (nI o))]) (st' := [.int (0 : Int32)]) (by decide +kernel) rfl rfl ?_
    exact v_zret g z rfl (by decide) (by decide +kernel) (Or.inl ⟨kd, pl, hg2, at2, sp2, G2, T2, by rw [alt, e1], rfl, r2, f2, b2⟩) ⟨by dsimp only; omega, by dsimp only; omega⟩
  · show zV F X h9 5 [(0, .ref a), (1, .int (nI o))] [.int 1]
    refine v_if_ne g (off := 5) (tgt := 10) (by decide +kernel) (by decide) (fun _ => ?_) (fun c => absurd c (by decide))
    refine v_blk g [.iconst 0, .istore_n 2] (pc' := 12) (lv' := [(2, .int (0 : Int32)), (0, .ref a), (1, .int (nI o))]) (st' := []) (by decide +kernel) rfl rfl ?_
    have q9 : p < q ∧ q ≤ n := prt_end d _ _ _ e1
    have key : ∀ f9 i q S hx, i + f9 = 200 → q ≤ 200 → RG h a t tb ss n B k fk fp T q S hx → altL (prt (txt B n) d) (txt B n) f9 q S = alt (prt (txt B n) d) (txt B n) p → zV F X hx 12 [(2, .int (nI i)), (0, .ref a), (1, .int (nI o))] [] := by
      refine z_ind ?_ ?_
      · intro i q S hx hi hq rg er
        obtain ⟨sp2, G2, T2, r2, f2, b2, o2, s1, w1, f1, x2, y2⟩ := id rg
        have b4 := b2.1
        have b5 := b2.2
        obtain ⟨xa, xt, xb, xs, xp, xg, xl⟩ := id r2
        refine v_blk g [.iload_n 2, .sipush 200] (pc' := 16) (lv' := [(2, .int (nI i)), (0, .ref a), (1, .int (nI o))]) (st' := [.int (200 : Int32), .int (nI i)]) (by decide +kernel) rfl rfl ?_
        refine v_icmp_ge g (off := 51) (tgt := 67) (by decide +kernel) (by decide) (fun _ => ?_) (fun c => absurd c (fun q => q (by rw [show i = 200 by omega]; decide)))
        refine v_blk g [.iconst 1] (pc' := 68) (lv' := [(2, .int (nI i)), (0, .ref a), (1, .int (nI o))]) (st' := [.int (1 : Int32)]) (by decide +kernel) rfl rfl ?_
        exact v_zret g z rfl (by decide) (by decide +kernel) (RG_P rg (by rw [← er, altL])) ⟨by dsimp only; omega, by dsimp only; omega⟩
      · intro f9 ih i q S hx hi hq rg er
        obtain ⟨sp2, G2, T2, r2, f2, b2, o2, s1, w1, f1, x2, y2⟩ := id rg
        have b4 := b2.1
        have b5 := b2.2
        obtain ⟨xa, xt, xb, xs, xp, xg, xl⟩ := id r2
        refine v_blk g [.iload_n 2, .sipush 200] (pc' := 16) (lv' := [(2, .int (nI i)), (0, .ref a), (1, .int (nI o))]) (st' := [.int (200 : Int32), .int (nI i)]) (by decide +kernel) rfl rfl ?_
        refine v_icmp_ge g (off := 51) (tgt := 67) (by decide +kernel) (by decide) (fun c => absurd c (fun q => absurd ((nI_lei (a := 200) (by decide) (by omega)).mp q) (by omega))) (fun _ => ?_)
        refine v_blk g [.aload_n 0] (pc' := 20) (lv' := [(2, .int (nI i)), (0, .ref a), (1, .int (nI o))]) (st' := [.ref a]) (by decide +kernel) rfl rfl ?_
        refine v_get g xa fl_X4_9 rfl (by decide +kernel) ?_
        refine v_blk g [.aload_n 0] (pc' := 24) (lv' := [(2, .int (nI i)), (0, .ref a), (1, .int (nI o))]) (st' := [.ref a, .ref t]) (by decide +kernel) rfl rfl ?_
        refine v_get g xa fl_X4_29 rfl (by decide +kernel) ?_
        refine v_callVp g (rest := []) (c_Tape_byteAt xt xb _ hn) cl_X4_59 xt rfl rfl (Nat.le_of_ble_eq_true rfl) (by decide +kernel) ⟨by dsimp only; omega, by dsimp only; omega⟩ ⟨by dsimp only; omega, by dsimp only; omega⟩ ?_
        show zV F X hx 30 [(2, .int (nI i)), (0, .ref a), (1, .int (nI o))] [.int (x_byteAt B n (nI q))]
        refine v_ti (z := txt B n q) (txt_at (by omega) (by omega)) ?_
        refine v_blk g [.bipush 43] (pc' := 32) (lv' := [(2, .int (nI i)), (0, .ref a), (1, .int (nI o))]) (st' := [.int (43 : Int32), .int (txt B n q)]) (by decide +kernel) rfl rfl ?_
        refine v_icmp_ne g (off := 35) (tgt := 67) (by decide +kernel) (by decide) (fun c => ?_) (fun c => ?_)
        · refine v_blk g [.iconst 1] (pc' := 68) (lv' := [(2, .int (nI i)), (0, .ref a), (1, .int (nI o))]) (st' := [.int (1 : Int32)]) (by decide +kernel) rfl rfl ?_
          exact v_zret g z rfl (by decide) (by decide +kernel) (RG_P rg (by rw [← er, altL, if_neg c])) ⟨by dsimp only; omega, by dsimp only; omega⟩
        · have q8 := txt_in c (by decide)
          have hsg : txt B n q = 124 ∨ txt B n q = 38 ∨ txt B n q = 45 ∨ txt B n q = 43 := Or.inr (Or.inr (Or.inr c))
          refine v_blk g [.aload_n 0, .dup] (pc' := 37) (lv' := [(2, .int (nI i)), (0, .ref a), (1, .int (nI o))]) (st' := [.ref a, .ref a]) (by decide +kernel) rfl rfl ?_
          refine v_get g xa fl_X4_29 rfl (by decide +kernel) ?_
          refine v_blk g [.iconst 1, .iadd] (pc' := 42) (lv' := [(2, .int (nI i)), (0, .ref a), (1, .int (nI o))]) (st' := [.int ((nI q) + (1 : Int32)), .ref a]) (by decide +kernel) rfl rfl ?_
          refine v_ti (z := nI (q + 1)) (nI_1 _) ?_
          refine v_put g (fs' := [.int fk, .int fp, .ref t, .ref ss, va_rf sp2, .int (nI (k + 1)), .int (nI (q + 1))]) xa fl_X4_29 rfl rfl (Nat.le_of_ble_eq_true rfl) rfl (by decide +kernel) ?_
          refine v_h (fun h1 eh1 => ?_)
          have r1 : RW h1 a t tb ss n B (nI (k + 1)) (nI (q + 1)) fk fp sp2 G2 T2 := by rw [eh1]; exact r2.num _ _ _ _
          have b1 : bud h T h1 T2 := bud_trans b2 (by rw [eh1]; exact bud_s)
          have b6 := b1.1
          have b7 := b1.2
          have f7 : fr (ow a ss T) (ow a ss T2) h h1 := fr_trans f2 (by rw [eh1]; exact fr_num)
          refine v_blk g [.aload_n 0, .iload_n 1] (pc' := 47) (lv' := [(2, .int (nI i)), (0, .ref a), (1, .int (nI o))]) (st' := [.int (nI o), .ref a]) (by decide +kernel) rfl rfl ?_
          refine v_callV g (rest := []) (hP h1 a t tb ss n B fk fp sp2 G2 T2 (k + 1) (q + 1) o r1 ho (by omega) hn (by omega)) cl_X4_70 r1.1 rfl rfl (Nat.le_of_ble_eq_true rfl) (by decide +kernel) ⟨by dsimp only; omega, by dsimp only; omega⟩ ⟨by dsimp only; omega, by dsimp only; omega⟩ (fun v9 h8 q7 => ?_)
          rcases q7 with ⟨kd, pl, hg3, at3, sp3, G3, T3, e3, rfl, r3, f3, b3⟩ | ⟨q3, S3, sp3, G3, T3, e3, rfl, r3, f3, b3, o3, s2, w2, g2, x3, y3⟩
          · show zV F X h8 50 [(2, .int (nI i)), (0, .ref a), (1, .int (nI o))] [.int 0]
            have b8 := bud_trans b1 b3
            have b9 := b8.1
            have b10 := b8.2
            refine v_if_ne g (off := 5) (tgt := 55) (by decide +kernel) (by decide) (fun c => absurd c (fun q => q rfl)) (fun _ => ?_)
            refine v_blk g [.iconst 0] (pc' := 54) (lv' := [(2, .int (nI i)), (0, .ref a), (1, .int (nI o))]) (st' := [.int (0 : Int32)]) (by decide +kernel) rfl rfl ?_
            exact v_zret g z rfl (by decide) (by decide +kernel) (Or.inl ⟨kd, pl, hg3, at3, sp3, G3, T3, by rw [← er, altL, if_pos c, e3], rfl, r3, fr_trans f7 f3, b8⟩) ⟨by dsimp only; omega, by dsimp only; omega⟩
          · show zV F X h8 50 [(2, .int (nI i)), (0, .ref a), (1, .int (nI o))] [.int 1]
            have b8 := bud_trans b1 b3
            have b9 := b8.1
            have b10 := b8.2
            have q6 : q + 1 < q3 ∧ q3 ≤ n := prt_end d _ _ _ e3
            refine v_if_ne g (off := 5) (tgt := 55) (by decide +kernel) (by decide) (fun _ => ?_) (fun c => absurd c (by decide))
            refine v_blk g [.aload_n 0, .bipush 43] (pc' := 58) (lv' := [(2, .int (nI i)), (0, .ref a), (1, .int (nI o))]) (st' := [.int (43 : Int32), .ref a]) (by decide +kernel) rfl rfl ?_
            refine v_ti (z := txt B n q) (c.symm) ?_
            refine v_callV g (rest := []) (c_PR_comb r3 (by omega) ((o3 k (by omega)).trans x2) x3 hsg) cl_X4_66 r3.1 rfl rfl (Nat.le_of_ble_eq_true rfl) (by decide +kernel) ⟨by dsimp only; omega, by dsimp only; omega⟩ ⟨by dsimp only; omega, by dsimp only; omega⟩ (fun v9 h7 q5 => ?_)
            obtain ⟨rfl, sp4, G4, T4, r4, f4, b11, o4, s5, w5, g5, x5, y5⟩ := q5
            show zV F X h7 61 [(2, .int (nI i)), (0, .ref a), (1, .int (nI o))] []
            refine v_blk g [.iinc 2 1] (pc' := 64) (lv' := [(2, .int ((nI i) + (1 : Int32))), (0, .ref a), (1, .int (nI o))]) (st' := []) (by decide +kernel) rfl rfl ?_
            refine v_goto g (off := -52) (tgt := 12) (by decide +kernel) (by decide) ?_
            refine v_eq (lv' := [(2, .int (nI (i + 1))), (0, .ref a), (1, .int (nI o))]) (st' := []) (by rw [nI_1]) rfl ?_
            refine v_lv [0, 1, 2] (lv' := [(2, .int (nI (i + 1))), (0, .ref a), (1, .int (nI o))]) rfl ?_
            exact ih (i + 1) q3 (opS (txt B n q) S S3) h7 (by omega) (by omega) ⟨sp4, G4, T4, r4, fr_trans (fr_trans f7 f3) f4, bud_trans b8 b11, fun j hj => (o4 j hj).trans ((o3 j (by omega)).trans (o2 j hj)), s5, w5, g5, x5, fun m hm => (y5 m hm).trans (opS_cong y2 y3 hm)⟩ (by rw [← er, altL, if_pos c, e3]; show _ = altL _ _ f9 q3 (opS 43 S S3); rw [c])
    refine v_eq (lv' := [(2, .int (nI 0)), (0, .ref a), (1, .int (nI o))]) (st' := []) rfl rfl ?_
    exact key 200 0 q S h9 rfl (by omega) ⟨sp2, G2, T2, r2, f2, b2, o2, x2⟩ (by rw [alt, e1])

set_option maxRecDepth 100000 in
set_option maxHeartbeats 4000000 in
theorem c_PR_plan {F : zF} {h : zH} {d : Nat} (hA : CAlt F d) {a t tb ss n : Nat} {B : Nat → Int32} {fk fp : Int32} {sp : Option Nat} {G : Nat → Option Nat} {T : Nat → zS} {k p o : Nat} (r : RW h a t tb ss n B (nI k) (nI p) fk fp sp G T) (ho : o + d = 6) (hk : k ≤ 2 * o) (hn : n ≤ 200) (hp : p ≤ 200) : zMet F yX4_readPlan cX4_readPlan 4 (some .boolean) { frames := 8 + 4 * d, cells := 2 * nn T 16, slots := 257 * nn T 16, locals := 240 + 120 * d } [.ref a, .int (nI o)] h (RP h a t tb ss n B k fk fp T (pln (alt (prt (txt B n) d) (txt B n)) (txt B n) p)) := by
  refine zMet_of (lv := [(0, .ref a), (1, .int (nI o))]) (by decide) (by simp [lg_sl, Value.category]) rfl ?_
  intro X g z
  obtain ⟨ha, ht, hb, hss, hsp, hG, hl⟩ := id r
  refine v_blk g [.aload_n 0, .iload_n 1] (pc' := 2) (lv' := [(0, .ref a), (1, .int (nI o))]) (st' := [.int (nI o), .ref a]) (by decide +kernel) rfl rfl ?_
  refine v_callV g (rest := []) (hA h a t tb ss n B fk fp sp G T k p o r ho (by omega) hn hp) cl_X4_56 ha rfl rfl (Nat.le_of_ble_eq_true rfl) (by decide +kernel) ⟨by dsimp only; omega, by dsimp only; omega⟩ (zcsn 0 0 rfl rfl (by dsimp only; omega) (by dsimp only; omega)) (fun v9 h9 q9 => ?_)
  rcases q9 with ⟨kd, pl, hg2, at2, sp2, G2, T2, e1, rfl, r2, f2, b2⟩ | ⟨q, S, sp2, G2, T2, e1, rfl, r2, f2, b2, o2, x2⟩
  · show zV F X h9 5 [(0, .ref a), (1, .int (nI o))] [.int 0]
    have b4 := b2.1
    have b5 := b2.2
    refine v_if_ne g (off := 5) (tgt := 10) (by decide +kernel) (by decide) (fun c => absurd c (fun q => q rfl)) (fun _ => ?_)
    refine v_blk g [.iconst 0] (pc' := 9) (lv' := [(0, .ref a), (1, .int (nI o))]) (st' := [.int (0 : Int32)]) (by decide +kernel) rfl rfl ?_
    exact v_zret g z rfl (by decide) (by decide +kernel) (Or.inl ⟨kd, pl, hg2, at2, sp2, G2, T2, by rw [pln, e1], rfl, r2, f2, b2⟩) ⟨by dsimp only; omega, by dsimp only; omega⟩
  · show zV F X h9 5 [(0, .ref a), (1, .int (nI o))] [.int 1]
    refine v_if_ne g (off := 5) (tgt := 10) (by decide +kernel) (by decide) (fun _ => ?_) (fun c => absurd c (by decide))
    refine v_blk g [.iconst 0, .istore_n 2] (pc' := 12) (lv' := [(2, .int (0 : Int32)), (0, .ref a), (1, .int (nI o))]) (st' := []) (by decide +kernel) rfl rfl ?_
    have q9 : p < q ∧ q ≤ n := alt_end (prt_end d) _ _ _ e1
    have key : ∀ f9 i q S hx, i + f9 = 200 → q ≤ 200 → RG h a t tb ss n B k fk fp T q S hx → plnL (alt (prt (txt B n) d) (txt B n)) (txt B n) f9 q S = pln (alt (prt (txt B n) d) (txt B n)) (txt B n) p → zV F X hx 12 [(2, .int (nI i)), (0, .ref a), (1, .int (nI o))] [] := by
      refine z_ind ?_ ?_
      · intro i q S hx hi hq rg er
        obtain ⟨sp2, G2, T2, r2, f2, b2, o2, s1, w1, f1, x2, y2⟩ := id rg
        have b4 := b2.1
        have b5 := b2.2
        obtain ⟨xa, xt, xb, xs, xp, xg, xl⟩ := id r2
        refine v_blk g [.iload_n 2, .sipush 200] (pc' := 16) (lv' := [(2, .int (nI i)), (0, .ref a), (1, .int (nI o))]) (st' := [.int (200 : Int32), .int (nI i)]) (by decide +kernel) rfl rfl ?_
        refine v_icmp_ge g (off := 63) (tgt := 79) (by decide +kernel) (by decide) (fun _ => ?_) (fun c => absurd c (fun q => q (by rw [show i = 200 by omega]; decide)))
        refine v_blk g [.iconst 1] (pc' := 80) (lv' := [(2, .int (nI i)), (0, .ref a), (1, .int (nI o))]) (st' := [.int (1 : Int32)]) (by decide +kernel) rfl rfl ?_
        exact v_zret g z rfl (by decide) (by decide +kernel) (RG_P rg (by rw [← er, plnL])) ⟨by dsimp only; omega, by dsimp only; omega⟩
      · intro f9 ih i q S hx hi hq rg er
        obtain ⟨sp2, G2, T2, r2, f2, b2, o2, s1, w1, f1, x2, y2⟩ := id rg
        have b4 := b2.1
        have b5 := b2.2
        obtain ⟨xa, xt, xb, xs, xp, xg, xl⟩ := id r2
        refine v_blk g [.iload_n 2, .sipush 200] (pc' := 16) (lv' := [(2, .int (nI i)), (0, .ref a), (1, .int (nI o))]) (st' := [.int (200 : Int32), .int (nI i)]) (by decide +kernel) rfl rfl ?_
        refine v_icmp_ge g (off := 63) (tgt := 79) (by decide +kernel) (by decide) (fun c => absurd c (fun q => absurd ((nI_lei (a := 200) (by decide) (by omega)).mp q) (by omega))) (fun _ => ?_)
        refine v_blk g [.aload_n 0] (pc' := 20) (lv' := [(2, .int (nI i)), (0, .ref a), (1, .int (nI o))]) (st' := [.ref a]) (by decide +kernel) rfl rfl ?_
        refine v_get g xa fl_X4_9 rfl (by decide +kernel) ?_
        refine v_blk g [.aload_n 0] (pc' := 24) (lv' := [(2, .int (nI i)), (0, .ref a), (1, .int (nI o))]) (st' := [.ref a, .ref t]) (by decide +kernel) rfl rfl ?_
        refine v_get g xa fl_X4_29 rfl (by decide +kernel) ?_
        refine v_callVp g (rest := []) (c_Tape_byteAt xt xb _ hn) cl_X4_59 xt rfl rfl (Nat.le_of_ble_eq_true rfl) (by decide +kernel) ⟨by dsimp only; omega, by dsimp only; omega⟩ ⟨by dsimp only; omega, by dsimp only; omega⟩ ?_
        show zV F X hx 30 [(2, .int (nI i)), (0, .ref a), (1, .int (nI o))] [.int (x_byteAt B n (nI q))]
        refine v_ti (z := txt B n q) (txt_at (by omega) (by omega)) ?_
        refine v_callSp g (rest := []) (c_isSetSign _) cl_X4_63 rfl (Nat.le_of_ble_eq_true rfl) (by decide +kernel) ⟨by dsimp only; omega, by dsimp only; omega⟩ ⟨by dsimp only; omega, by dsimp only; omega⟩ ?_
        show zV F X hx 33 [(2, .int (nI i)), (0, .ref a), (1, .int (nI o))] [.int (x_sign (txt B n q))]
        refine v_if_eq g (off := 46) (tgt := 79) (by decide +kernel) (by decide) (fun c => ?_) (fun c => ?_)
        · refine v_blk g [.iconst 1] (pc' := 80) (lv' := [(2, .int (nI i)), (0, .ref a), (1, .int (nI o))]) (st' := [.int (1 : Int32)]) (by decide +kernel) rfl rfl ?_
          exact v_zret g z rfl (by decide) (by decide +kernel) (RG_P rg (by rw [← er, plnL, if_neg (fun q => q c)])) ⟨by dsimp only; omega, by dsimp only; omega⟩
        · have hsg := sign_is c
          have q8 : q < n := txt_in (c := txt B n q) rfl (fun e => c (by rw [e]; decide))
          refine v_blk g [.aload_n 0] (pc' := 37) (lv' := [(2, .int (nI i)), (0, .ref a), (1, .int (nI o))]) (st' := [.ref a]) (by decide +kernel) rfl rfl ?_
          refine v_get g xa fl_X4_9 rfl (by decide +kernel) ?_
          refine v_blk g [.aload_n 0] (pc' := 41) (lv' := [(2, .int (nI i)), (0, .ref a), (1, .int (nI o))]) (st' := [.ref a, .ref t]) (by decide +kernel) rfl rfl ?_
          refine v_get g xa fl_X4_29 rfl (by decide +kernel) ?_
          refine v_callVp g (rest := []) (c_Tape_byteAt xt xb _ hn) cl_X4_59 xt rfl rfl (Nat.le_of_ble_eq_true rfl) (by decide +kernel) ⟨by dsimp only; omega, by dsimp only; omega⟩ ⟨by dsimp only; omega, by dsimp only; omega⟩ ?_
          show zV F X hx 47 [(2, .int (nI i)), (0, .ref a), (1, .int (nI o))] [.int (x_byteAt B n (nI q))]
          refine v_ti (z := txt B n q) (txt_at (by omega) (by omega)) ?_
          refine v_blk g [.istore_n 3, .aload_n 0, .dup] (pc' := 50) (lv' := [(3, .int (txt B n q)), (2, .int (nI i)), (0, .ref a), (1, .int (nI o))]) (st' := [.ref a, .ref a]) (by decide +kernel) rfl rfl ?_
          refine v_get g xa fl_X4_29 rfl (by decide +kernel) ?_
          refine v_blk g [.iconst 1, .iadd] (pc' := 55) (lv' := [(3, .int (txt B n q)), (2, .int (nI i)), (0, .ref a), (1, .int (nI o))]) (st' := [.int ((nI q) + (1 : Int32)), .ref a]) (by decide +kernel) rfl rfl ?_
          refine v_ti (z := nI (q + 1)) (nI_1 _) ?_
          refine v_put g (fs' := [.int fk, .int fp, .ref t, .ref ss, va_rf sp2, .int (nI (k + 1)), .int (nI (q + 1))]) xa fl_X4_29 rfl rfl (Nat.le_of_ble_eq_true rfl) rfl (by decide +kernel) ?_
          refine v_h (fun h1 eh1 => ?_)
          have r1 : RW h1 a t tb ss n B (nI (k + 1)) (nI (q + 1)) fk fp sp2 G2 T2 := by rw [eh1]; exact r2.num _ _ _ _
          have b1 : bud h T h1 T2 := bud_trans b2 (by rw [eh1]; exact bud_s)
          have b6 := b1.1
          have b7 := b1.2
          have f7 : fr (ow a ss T) (ow a ss T2) h h1 := fr_trans f2 (by rw [eh1]; exact fr_num)
          refine v_blk g [.aload_n 0, .iload_n 1] (pc' := 60) (lv' := [(3, .int (txt B n q)), (2, .int (nI i)), (0, .ref a), (1, .int (nI o))]) (st' := [.int (nI o), .ref a]) (by decide +kernel) rfl rfl ?_
          refine v_callV g (rest := []) (hA h1 a t tb ss n B fk fp sp2 G2 T2 (k + 1) (q + 1) o r1 ho (by omega) hn (by omega)) cl_X4_56 r1.1 rfl rfl (Nat.le_of_ble_eq_true rfl) (by decide +kernel) ⟨by dsimp only; omega, by dsimp only; omega⟩ ⟨by dsimp only; omega, by dsimp only; omega⟩ (fun v9 h8 q7 => ?_)
          rcases q7 with ⟨kd, pl, hg3, at3, sp3, G3, T3, e3, rfl, r3, f3, b3⟩ | ⟨q3, S3, sp3, G3, T3, e3, rfl, r3, f3, b3, o3, s2, w2, g2, x3, y3⟩
          · show zV F X h8 63 [(3, .int (txt B n q)), (2, .int (nI i)), (0, .ref a), (1, .int (nI o))] [.int 0]
            have b8 := bud_trans b1 b3
            have b9 := b8.1
            have b10 := b8.2
            refine v_if_ne g (off := 5) (tgt := 68) (by decide +kernel) (by decide) (fun c => absurd c (fun q => q rfl)) (fun _ => ?_)
            refine v_blk g [.iconst 0] (pc' := 67) (lv' := [(3, .int (txt B n q)), (2, .int (nI i)), (0, .ref a), (1, .int (nI o))]) (st' := [.int (0 : Int32)]) (by decide +kernel) rfl rfl ?_
            exact v_zret g z rfl (by decide) (by decide +kernel) (Or.inl ⟨kd, pl, hg3, at3, sp3, G3, T3, by rw [← er, plnL, if_pos c, e3], rfl, r3, fr_trans f7 f3, b8⟩) ⟨by dsimp only; omega, by dsimp only; omega⟩
          · show zV F X h8 63 [(3, .int (txt B n q)), (2, .int (nI i)), (0, .ref a), (1, .int (nI o))] [.int 1]
            have b8 := bud_trans b1 b3
            have b9 := b8.1
            have b10 := b8.2
            have q6 : q + 1 < q3 ∧ q3 ≤ n := alt_end (prt_end d) _ _ _ e3
            refine v_if_ne g (off := 5) (tgt := 68) (by decide +kernel) (by decide) (fun _ => ?_) (fun c => absurd c (by decide))
            refine v_blk g [.aload_n 0, .iload_n 3] (pc' := 70) (lv' := [(3, .int (txt B n q)), (2, .int (nI i)), (0, .ref a), (1, .int (nI o))]) (st' := [.int (txt B n q), .ref a]) (by decide +kernel) rfl rfl ?_
            refine v_callV g (rest := []) (c_PR_comb r3 (by omega) ((o3 k (by omega)).trans x2) x3 hsg) cl_X4_66 r3.1 rfl rfl (Nat.le_of_ble_eq_true rfl) (by decide +kernel) ⟨by dsimp only; omega, by dsimp only; omega⟩ ⟨by dsimp only; omega, by dsimp only; omega⟩ (fun v9 h7 q5 => ?_)
            obtain ⟨rfl, sp4, G4, T4, r4, f4, b11, o4, s5, w5, g5, x5, y5⟩ := q5
            show zV F X h7 73 [(3, .int (txt B n q)), (2, .int (nI i)), (0, .ref a), (1, .int (nI o))] []
            refine v_blk g [.iinc 2 1] (pc' := 76) (lv' := [(2, .int ((nI i) + (1 : Int32))), (3, .int (txt B n q)), (0, .ref a), (1, .int (nI o))]) (st' := []) (by decide +kernel) rfl rfl ?_
            refine v_goto g (off := -64) (tgt := 12) (by decide +kernel) (by decide) ?_
            refine v_eq (lv' := [(2, .int (nI (i + 1))), (3, .int (txt B n q)), (0, .ref a), (1, .int (nI o))]) (st' := []) (by rw [nI_1]) rfl ?_
            refine v_lv [0, 2, 3] (lv' := [(2, .int (nI (i + 1))), (0, .ref a), (1, .int (nI o))]) rfl ?_
            exact ih (i + 1) q3 (opS (txt B n q) S S3) h7 (by omega) (by omega) ⟨sp4, G4, T4, r4, fr_trans (fr_trans f7 f3) f4, bud_trans b8 b11, fun j hj => (o4 j hj).trans ((o3 j (by omega)).trans (o2 j hj)), s5, w5, g5, x5, fun m hm => (y5 m hm).trans (opS_cong y2 y3 hm)⟩ (by rw [← er, plnL, if_pos c, e3])
    refine v_eq (lv' := [(2, .int (nI 0)), (0, .ref a), (1, .int (nI o))]) (st' := []) rfl rfl ?_
    exact key 200 0 q S h9 rfl (by omega) ⟨sp2, G2, T2, r2, f2, b2, o2, x2⟩ (by rw [pln, e1])

theorem c_PR_all {F : zF} : ∀ d, CPln F d := by
  have hA : ∀ d, CBrk F d → CPln F d := fun d hB =>
    have hP : CPart F d := fun h a t tb ss n B fk fp sp G T k p o r ho hk hn hp => c_PR_part hB r ho hk hn hp
    have hA : CAlt F d := fun h a t tb ss n B fk fp sp G T k p o r ho hk hn hp => c_PR_alt hP r ho hk hn hp
    fun h a t tb ss n B fk fp sp G T k p o r ho hk hn hp => c_PR_plan hA r ho hk hn hp
  refine z_ind (hA 0 (fun h a t tb ss n B fk fp sp G T k p o r ho hk hn hp _ => c_PR_brk0 r ho hk hn hp)) (fun d ih => hA (d + 1) (fun h a t tb ss n B fk fp sp G T k p o r ho hk hn hp c => c_PR_brk ih r ho hk hn hp c))
