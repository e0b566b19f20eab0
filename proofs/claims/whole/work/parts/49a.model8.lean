/-! the reference: a part of a plan -/
theorem pcN14 {M : Nat} (h : M < 16384) : pcN M ≤ 14 := by
  unfold pcN
  rw [ct_out (b := 14) (by decide) (fun i hi => Nat.testBit_lt_two_pow (Nat.lt_of_lt_of_le h (Nat.pow_le_pow_right (n := 2) (by decide) hi)))]
  exact fb_ct_le _ 14
theorem pcN_or {M v : Nat} (hv : v < 32) (h : M.testBit v = false) : pcN (M ||| 2 ^ v) = pcN M + 1 := by
  unfold pcN
  have e := fb_ct_upd (fun t => M.testBit t) true (i := v) (n := 32) hv
  rw [h] at e
  have e2 : (fun t => (M ||| 2 ^ v).testBit t) = (fun k => if k = v then true else M.testBit k) := by
    funext t
    rw [fb_bit_set]
    by_cases q : t = v
    · simp [q]
    · simp [q]
  rw [e2]
  simpa using e
theorem pcN_sub {l M : Nat} (hl : l < 16384) (hM : M < 16384) (h : l &&& M = l) (e : pcN l = pcN M) : l = M := by
  have hb : ∀ i, l.testBit i = true → M.testBit i = true := fun i hi => by
    rw [← h, Nat.testBit_and] at hi
    simp at hi; exact hi.2
  have e1 := fb_ct_or (p := fun t => l.testBit t) (q := fun t => M.testBit t && !l.testBit t) (n := 32) (fun k _ q => by
    obtain ⟨q1, q2⟩ := q
    have q3 : l.testBit k = true := q1
    simp [q3] at q2)
  have e2 : (fun k => l.testBit k || (M.testBit k && !l.testBit k)) = (fun t => M.testBit t) := by
    funext t
    cases h1 : l.testBit t with
    | true => rw [hb t h1]; rfl
    | false => simp
  rw [e2] at e1
  have e3 : fb_ct (fun t => M.testBit t && !l.testBit t) 32 = 0 := by unfold pcN at e; omega
  have e4 := fb_ct_zero.mp e3
  refine eq14 hl hM (fun i hi => ⟨hb i, fun q => ?_⟩)
  have := e4 i (by omega)
  simp [q] at this
  exact this
theorem pcN_sub' {l M : Nat} (hl : l < 16384) (hM : M < 16384) : l = M ↔ (l &&& M = l ∧ pcN l = pcN M) := ⟨fun e => by rw [e]; exact ⟨Nat.and_self _, rfl⟩, fun e => pcN_sub hl hM e.1 e.2⟩
theorem pc32_n {l : Nat} (h : l < 2 ^ 32) : pc32 (nI l) = pcN l := by unfold pc32 pcN; rw [u32_nI h]
theorem notin {l M : Nat} (hl : l < 16384) (hM : M < 16384) : (nI l &&& (nI M ^^^ (-1 : Int32)) = 0) ↔ l &&& M = l := by
  have hb : ∀ (n i : Nat), bt (nI n) i = (decide (i < 32) && n.testBit i) := fun n i => by
    show (BitVec.ofNat 32 n).getLsbD i = _
    rw [BitVec.getLsbD_ofNat]
  constructor
  · intro e
    apply Nat.eq_of_testBit_eq
    intro i
    rw [Nat.testBit_and]
    by_cases hi : i < 32
    · have e2 := congrArg (fun z => bt z i) e
      simp only [b_and, b_xor, b_0, b_m1 i hi, hb] at e2
      simp [hi] at e2
      cases h1 : l.testBit i with
      | true => simpa [h1] using e2
      | false => simp
    · rw [Nat.testBit_lt_two_pow (Nat.lt_of_lt_of_le hl (Nat.pow_le_pow_right (n := 2) (i := 14) (by decide) (by omega)))]; simp
  · intro e
    apply b_ext
    intro i hi
    rw [b_and, b_xor, b_0, b_m1 i hi, hb, hb]
    have e2 := congrArg (fun z => z.testBit i) e
    simp only [Nat.testBit_and] at e2
    simp [hi]
    intro h1
    rw [h1] at e2
    simpa using e2
theorem rmt_s (x : Nat → Int32) (k M p : Nat) (hd : ¬ dg x p = 0) : rmt x (k + 1) M p = if 14 ≤ numv x p ∨ M.testBit (numv x p) = true then .inl (2, p) else if x (p + dg x p) = 46 then rmt x k (M ||| 2 ^ numv x p) (p + dg x p + 1) else .inr (M ||| 2 ^ numv x p, p + dg x p) := by
  rw [rmt, if_neg hd]
theorem rmt_z (x : Nat → Int32) (k M p : Nat) (hd : dg x p = 0) : rmt x (k + 1) M p = .inl (1, p) := by
  rw [rmt, if_pos hd]
def lev (PL : Nat → Int32) (k : Nat) (S : Nat → Prop) : Prop := ∀ l, l < 16384 → (¬ PL (16384 * k + l) = 0 ↔ S l)
def chG (M : Nat) (key : Int32) (l : Nat) : Int32 := if key = -1 then (if l = M then 1 else 0) else (if l &&& M = l ∧ nI (pcN l) = key then 1 else 0)
theorem chG_lev {PL : Nat → Int32} {k M kv : Nat} {key : Int32} {ky : Bool} (hM : M < 16384) (hk : (ky = true ∧ key = nI kv ∧ kv < 100) ∨ (ky = false ∧ key = -1)) : lev (fb_put PL (chG M key) (16384 * k) 16384) k (fun l => l &&& M = l ∧ pcN l = if ky = true then kv else pcN M) := by
  intro l hl
  have pl := pcN_le l
  rw [fb_put_in (by omega) (by omega), show 16384 * k + l - 16384 * k = l by omega]
  rcases hk with ⟨rfl, rfl, hkv⟩ | ⟨rfl, rfl⟩
  · unfold chG
    rw [if_neg (nI_ne1 (by omega))]
    show ¬ (if l &&& M = l ∧ nI (pcN l) = nI kv then (1 : Int32) else 0) = 0 ↔ (l &&& M = l ∧ pcN l = kv)
    have : (nI (pcN l) = nI kv) ↔ pcN l = kv := nI_eq (by omega) (by omega)
    by_cases q : l &&& M = l ∧ pcN l = kv
    · rw [if_pos ⟨q.1, this.mpr q.2⟩]; simp [q]
    · rw [if_neg (fun e => q ⟨e.1, this.mp e.2⟩)]; simp; intro e1 e2; exact q ⟨e1, e2⟩
  · unfold chG
    rw [if_pos rfl]
    show ¬ (if l = M then (1 : Int32) else 0) = 0 ↔ (l &&& M = l ∧ pcN l = pcN M)
    rw [← pcN_sub' hl hM]
    by_cases q : l = M <;> simp [q]

set_option maxRecDepth 100000 in
set_option maxHeartbeats 4000000 in
theorem m_readPart {F : zF} {h : zH} {h0 : zH} {m : Nat} {R : Nat → Nat} {tp fp cn ha un dm wk pm cu ct dt pt th : Int32} {hl pd hlt pdt : Int64} {SC PN V B LN PR PA VD P SC2 PN2 LN2 PR2 PA2 VD2 P2 PL O1 O2 : Nat → Int32} {DV Z DV2 Z2 : Nat → Int64} {n p k : Nat} (M : MC h0 h m R (oM R tp 0 fp cn ha un dm wk hl pd pm cu ct dt hlt pdt pt (nI k) th (nI p) (nI n)) SC PN V B LN PR PA VD DV Z P SC2 PN2 LN2 PR2 PA2 VD2 DV2 Z2 P2 PL O1 O2) (hn : n ≤ 200) (hp : p ≤ 200) (hk : k < 16) : zMet F yX8_readPart cX8_readPart 9 (some .boolean) { frames := 4, cells := 0, slots := 0, locals := 120 } [.ref m] h (fun v9 h2 => (∃ (kd pl9 : Nat) (hg2 at2 : Int32) (PL2 O12 O22 : Nat → Int32), cho (txt B n) p = .inl (kd, pl9) ∧ v9 = some (.int 0) ∧ MC h0 h2 m R (oM R tp (nI kd) (nI pl9) cn ha un dm wk hl pd pm cu ct dt hlt pdt pt hg2 th at2 (nI n)) SC PN V B LN PR PA VD DV Z P SC2 PN2 LN2 PR2 PA2 VD2 DV2 Z2 P2 PL2 O12 O22) ∨ (∃ (q : Nat) (S : Nat → Prop) (PL2 O12 O22 : Nat → Int32), cho (txt B n) p = .inr (q, S) ∧ v9 = some (.int 1) ∧ MC h0 h2 m R (oM R tp 0 fp cn ha un dm wk hl pd pm cu ct dt hlt pdt pt (nI (k + 1)) th (nI q) (nI n)) SC PN V B LN PR PA VD DV Z P SC2 PN2 LN2 PR2 PA2 VD2 DV2 Z2 P2 PL2 O12 O22 ∧ (∀ j, j < 16384 * k → PL2 j = PL j) ∧ lev PL2 k S)) := by
  refine zMet_of (lv := [(0, .ref m)]) (by decide) (by simp [lg_sl, Value.category]) rfl ?_
  intro X g z
  have tail : ∀ (ky : Bool) (key : Int32) (p0 : Nat), ((ky = true ∧ key = nI (numv (txt B n) p) ∧ numv (txt B n) p < 100) ∨ (ky = false ∧ key = -1)) → cho (txt B n) p = choE (txt B n) p ky (rmt (txt B n) 15 0 p0) → ∀ (Mk f9 q9 : Nat) (v4 : Int32) (g9 : zH), rmt (txt B n) 15 0 p0 = .inr (Mk, q9) → Mk < 16384 → MC h0 g9 m R (oM R tp 0 fp cn ha un dm wk hl pd pm cu ct dt hlt pdt pt (nI k) th (nI q9) (nI n)) SC PN V B LN PR PA VD DV Z P SC2 PN2 LN2 PR2 PA2 VD2 DV2 Z2 P2 PL O1 O2 → zV F X g9 201 [(2, .int key), (3, .int (nI p)), (5, .int (nI Mk)), (6, .int (nI (pcN Mk))), (0, .ref m)] [] := by
    intro ky key p0 hky hcho Mk f9 q9 v4 g9 hr hMk M9
    have pm14 := pcN14 hMk
    have hk2 : (ky = true ∧ key = nI (numv (txt B n) p)) ∨ (ky = false ∧ key = -1) := hky.elim (fun e => Or.inl ⟨e.1, e.2.1⟩) Or.inr
    have g9_c := mcc M.c M9.c
    refine v_blk g [.iload_n 2, .iload 6] (pc' := 204) (lv' := [(2, .int key), (3, .int (nI p)), (5, .int (nI Mk)), (6, .int (nI (pcN Mk))), (0, .ref m)]) (st' := [.int (nI (pcN Mk)), .int key]) (by decide +kernel) rfl rfl ?_
    refine v_icmp_le g (off := 10) (tgt := 214) (by decide +kernel) (by decide) (fun c => ?_) (fun c => ?_)
    · have hres : cho (txt B n) p = .inr (q9, fun l => l &&& Mk = l ∧ pcN l = if ky = true then numv (txt B n) p else pcN Mk) := by
        rw [hcho, hr]
        refine if_neg (fun e => ?_)
        rcases hky with ⟨-, e2, e3⟩ | ⟨e2, -⟩
        · rw [e2] at c; have := (nI_lei (by omega) (by omega)).mp c; omega
        · rw [e2] at e; exact absurd e.1 (by decide)
      refine v_blk g [.iconst 0, .istore 8] (pc' := 217) (lv' := [(8, .int (0 : Int32)), (2, .int key), (3, .int (nI p)), (5, .int (nI Mk)), (6, .int (nI (pcN Mk))), (0, .ref m)]) (st' := []) (by decide +kernel) rfl rfl ?_
      refine v_lv [0, 1, 3, 5] (lv' := [(8, .int (0 : Int32)), (2, .int key), (5, .int (nI Mk)), (0, .ref m)]) rfl ?_
      have key9 : ∀ i, i ≤ 16384 → ∀ g8 : zH, MC h0 g8 m R (oM R tp 0 fp cn ha un dm wk hl pd pm cu ct dt hlt pdt pt (nI k) th (nI q9) (nI n)) SC PN V B LN PR PA VD DV Z P SC2 PN2 LN2 PR2 PA2 VD2 DV2 Z2 P2 (fb_put PL (chG Mk key) (16384 * k) i) O1 O2 → zV F X g8 217 [(8, .int (nI i)), (2, .int key), (5, .int (nI Mk)), (0, .ref m)] [] := by
        refine z_up (P := fun i => ∀ g8 : zH, MC h0 g8 m R (oM R tp 0 fp cn ha un dm wk hl pd pm cu ct dt hlt pdt pt (nI k) th (nI q9) (nI n)) SC PN V B LN PR PA VD DV Z P SC2 PN2 LN2 PR2 PA2 VD2 DV2 Z2 P2 (fb_put PL (chG Mk key) (16384 * k) i) O1 O2 → zV F X g8 217 [(8, .int (nI i)), (2, .int key), (5, .int (nI Mk)), (0, .ref m)] []) 16384 ?_ ?_
        · intro g8 M8
          have g8_c := mcc M.c M8.c
          refine v_blk g [.iload 8, .sipush 16384] (pc' := 222) (lv' := [(8, .int (nI 16384)), (2, .int key), (5, .int (nI Mk)), (0, .ref m)]) (st' := [.int (16384 : Int32), .int (nI 16384)]) (by decide +kernel) rfl rfl ?_
          refine v_icmp_ge g (off := 69) (tgt := 291) (by decide +kernel) (by decide) (fun _ => ?_) (fun c => absurd c (fun q => q (by decide)))
          refine v_blk g [.aload_n 0, .dup] (pc' := 293) (lv' := [(8, .int (nI 16384)), (2, .int key), (5, .int (nI Mk)), (0, .ref m)]) (st' := [.ref m, .ref m]) (by decide +kernel) rfl rfl ?_
          refine v_get g M8.o fl_X8_144 rfl (by decide +kernel) ?_
          refine v_blk g [.iconst 1, .iadd] (pc' := 298) (lv' := [(8, .int (nI 16384)), (2, .int key), (5, .int (nI Mk)), (0, .ref m)]) (st' := [.int ((nI k) + (1 : Int32)), .ref m]) (by decide +kernel) rfl rfl ?_
          refine v_ti (z := nI (k + 1)) (nI_1 k) ?_
          refine v_put g (fs' := oMl R tp 0 fp cn ha un dm wk hl pd pm cu ct dt hlt pdt pt (nI (k + 1)) th (nI q9) (nI n)) M8.o fl_X8_144 rfl rfl (Nat.le_of_ble_eq_true rfl) rfl (by decide +kernel) ?_
          refine v_h (fun h5 eh5 => ?_)
          have M_h5 : MC h0 h5 m R (oM R tp 0 fp cn ha un dm wk hl pd pm cu ct dt hlt pdt pt (nI (k + 1)) th (nI q9) (nI n)) SC PN V B LN PR PA VD DV Z P SC2 PN2 LN2 PR2 PA2 VD2 DV2 Z2 P2 (fb_put PL (chG Mk key) (16384 * k) 16384) O1 O2 := by rw [eh5]; exact M8.so _
          have h5_c := mcc M.c M_h5.c
          refine v_blk g [.iconst 1] (pc' := 302) (lv' := [(8, .int (nI 16384)), (2, .int key), (5, .int (nI Mk)), (0, .ref m)]) (st' := [.int (1 : Int32)]) (by decide +kernel) rfl rfl ?_
          exact v_zret g z rfl (by decide) (by decide +kernel) (Or.inr ⟨q9, _, _, O1, O2, hres, rfl, M_h5, fun j hj => fb_put_out (Or.inl hj), chG_lev hMk hky⟩) (zcrn 0 0 h5_c.1 h5_c.2 (Nat.le_of_ble_eq_true rfl) (Nat.le_of_ble_eq_true rfl))
        · intro i hi ih g8 M8
          have g8_c := mcc M.c M8.c
          refine v_blk g [.iload 8, .sipush 16384] (pc' := 222) (lv' := [(8, .int (nI i)), (2, .int key), (5, .int (nI Mk)), (0, .ref m)]) (st' := [.int (16384 : Int32), .int (nI i)]) (by decide +kernel) rfl rfl ?_
          refine v_icmp_ge g (off := 69) (tgt := 291) (by decide +kernel) (by decide) (fun c => absurd c (nI_ge (b := 16384) hi (by decide))) (fun _ => ?_)
          refine v_blk g [.aload_n 0] (pc' := 226) (lv' := [(8, .int (nI i)), (2, .int key), (5, .int (nI Mk)), (0, .ref m)]) (st' := [.ref m]) (by decide +kernel) rfl rfl ?_
          refine v_get g M8.o fl_X8_80 rfl (by decide +kernel) ?_
          refine v_blk g [.sipush 16384, .aload_n 0] (pc' := 233) (lv' := [(8, .int (nI i)), (2, .int key), (5, .int (nI Mk)), (0, .ref m)]) (st' := [.ref m, .int (16384 : Int32), .ref (R 20)]) (by decide +kernel) rfl rfl ?_
          refine v_get g M8.o fl_X8_144 rfl (by decide +kernel) ?_
          refine v_blk g [.imul, .iload 8, .iadd] (pc' := 240) (lv' := [(8, .int (nI i)), (2, .int key), (5, .int (nI Mk)), (0, .ref m)]) (st' := [.int (((16384 : Int32) * (nI k)) + (nI i)), .ref (R 20)]) (by decide +kernel) rfl rfl ?_
          refine v_ti (z := nI (16384 * k + i)) (by rw [show (16384 : Int32) = nI 16384 from rfl, pk_mul, nI_add]) ?_
          refine v_blk g [.iload_n 2, .iconst (-1)] (pc' := 242) (lv' := [(8, .int (nI i)), (2, .int key), (5, .int (nI Mk)), (0, .ref m)]) (st' := [.int (-1 : Int32), .int key, .int (nI (16384 * k + i)), .ref (R 20)]) (by decide +kernel) rfl rfl ?_
          refine v_icmp_ne g (off := 18) (tgt := 260) (by decide +kernel) (by decide) (fun c2 => ?_) (fun c2 => ?_)
          · refine v_blk g [.iload 8, .iload 5, .iconst (-1), .ixor, .iand] (pc' := 267) (lv' := [(8, .int (nI i)), (2, .int key), (5, .int (nI Mk)), (0, .ref m)]) (st' := [.int ((nI i) &&& ((nI Mk) ^^^ (-1 : Int32))), .int (nI (16384 * k + i)), .ref (R 20)]) (by decide +kernel) rfl rfl ?_
            refine v_if_ne g (off := 16) (tgt := 283) (by decide +kernel) (by decide) (fun c3 => ?_) (fun c3 => ?_)
            · refine v_blk g [.iconst 0] (pc' := 284) (lv' := [(8, .int (nI i)), (2, .int key), (5, .int (nI Mk)), (0, .ref m)]) (st' := [.int (0 : Int32), .int (nI (16384 * k + i)), .ref (R 20)]) (by decide +kernel) rfl rfl ?_
              refine v_ti (z := chG Mk key i) (by rw [chG, if_neg c2, if_neg (fun e => c3 ((notin hi hMk).mpr e.1))]) ?_
              refine v_zast g M8.k20 (by unfold chG; split <;> split <;> simp) (16384 * k + i) rfl (by omega) (Nat.le_of_ble_eq_true rfl) (by decide +kernel) ?_
              refine v_h (fun h6 eh6 => ?_)
              have M_h6 : MC h0 h6 m R (oM R tp 0 fp cn ha un dm wk hl pd pm cu ct dt hlt pdt pt (nI k) th (nI q9) (nI n)) SC PN V B LN PR PA VD DV Z P SC2 PN2 LN2 PR2 PA2 VD2 DV2 Z2 P2 (upd (fb_put PL (chG Mk key) (16384 * k) i) (16384 * k + i) (chG Mk key i)) O1 O2 := by rw [eh6]; exact M8.s20 _
              have h6_c := mcc M.c M_h6.c
              refine v_blk g [.iinc 8 1] (pc' := 288) (lv' := [(8, .int ((nI i) + (1 : Int32))), (2, .int key), (5, .int (nI Mk)), (0, .ref m)]) (st' := []) (by decide +kernel) rfl rfl ?_
              refine v_goto g (off := -71) (tgt := 217) (by decide +kernel) (by decide) ?_
              refine v_lv [0, 1, 2, 3] (lv' := [(8, .int ((nI i) + (1 : Int32))), (2, .int key), (5, .int (nI Mk)), (0, .ref m)]) rfl ?_
              exact v_eq (by rw [nI_1]) rfl (ih _ (by rw [← fb_put_succ]; exact M_h6))
            · refine v_blk g [.iload 8] (pc' := 272) (lv' := [(8, .int (nI i)), (2, .int key), (5, .int (nI Mk)), (0, .ref m)]) (st' := [.int (nI i), .int (nI (16384 * k + i)), .ref (R 20)]) (by decide +kernel) rfl rfl ?_
              refine v_callSp g (rest := [.int (nI (16384 * k + i)), .ref (R 20)]) (c_bitCountI (nI i)) cl_X8_147 rfl (Nat.le_of_ble_eq_true rfl) (by decide +kernel) ⟨Nat.le_of_ble_eq_true rfl, Nat.le_of_ble_eq_true rfl⟩ (zcsn 0 0 g8_c.1 g8_c.2 (Nat.le_of_ble_eq_true rfl) (Nat.le_of_ble_eq_true rfl)) ?_
              show zV F X g8 275 [(8, .int (nI i)), (2, .int key), (5, .int (nI Mk)), (0, .ref m)] [.int (nI (pc32 (nI i))), .int (nI (16384 * k + i)), .ref (R 20)]
              refine v_ti (z := nI (pcN i)) (by rw [pc32_n (by omega)]) ?_
              refine v_blk g [.iload_n 2] (pc' := 276) (lv' := [(8, .int (nI i)), (2, .int key), (5, .int (nI Mk)), (0, .ref m)]) (st' := [.int key, .int (nI (pcN i)), .int (nI (16384 * k + i)), .ref (R 20)]) (by decide +kernel) rfl rfl ?_
              refine v_icmp_ne g (off := 7) (tgt := 283) (by decide +kernel) (by decide) (fun c4 => ?_) (fun c4 => ?_)
              · refine v_blk g [.iconst 0] (pc' := 284) (lv' := [(8, .int (nI i)), (2, .int key), (5, .int (nI Mk)), (0, .ref m)]) (st' := [.int (0 : Int32), .int (nI (16384 * k + i)), .ref (R 20)]) (by decide +kernel) rfl rfl ?_
                refine v_ti (z := chG Mk key i) (by rw [chG, if_neg c2, if_neg (fun e => c4 e.2)]) ?_
                refine v_zast g M8.k20 (by unfold chG; split <;> split <;> simp) (16384 * k + i) rfl (by omega) (Nat.le_of_ble_eq_true rfl) (by decide +kernel) ?_
                refine v_h (fun h6 eh6 => ?_)
                have M_h6 : MC h0 h6 m R (oM R tp 0 fp cn ha un dm wk hl pd pm cu ct dt hlt pdt pt (nI k) th (nI q9) (nI n)) SC PN V B LN PR PA VD DV Z P SC2 PN2 LN2 PR2 PA2 VD2 DV2 Z2 P2 (upd (fb_put PL (chG Mk key) (16384 * k) i) (16384 * k + i) (chG Mk key i)) O1 O2 := by rw [eh6]; exact M8.s20 _
                have h6_c := mcc M.c M_h6.c
                refine v_blk g [.iinc 8 1] (pc' := 288) (lv' := [(8, .int ((nI i) + (1 : Int32))), (2, .int key), (5, .int (nI Mk)), (0, .ref m)]) (st' := []) (by decide +kernel) rfl rfl ?_
                refine v_goto g (off := -71) (tgt := 217) (by decide +kernel) (by decide) ?_
                refine v_lv [0, 1, 2, 3] (lv' := [(8, .int ((nI i) + (1 : Int32))), (2, .int key), (5, .int (nI Mk)), (0, .ref m)]) rfl ?_
                exact v_eq (by rw [nI_1]) rfl (ih _ (by rw [← fb_put_succ]; exact M_h6))
              · refine v_blk g [.iconst 1] (pc' := 280) (lv' := [(8, .int (nI i)), (2, .int key), (5, .int (nI Mk)), (0, .ref m)]) (st' := [.int (1 : Int32), .int (nI (16384 * k + i)), .ref (R 20)]) (by decide +kernel) rfl rfl ?_
                refine v_goto g (off := 4) (tgt := 284) (by decide +kernel) (by decide) ?_
                refine v_ti (z := chG Mk key i) (by rw [chG, if_neg c2, if_pos ⟨(notin hi hMk).mp c3, c4⟩]) ?_
                refine v_zast g M8.k20 (by unfold chG; split <;> split <;> simp) (16384 * k + i) rfl (by omega) (Nat.le_of_ble_eq_true rfl) (by decide +kernel) ?_
                refine v_h (fun h6 eh6 => ?_)
                have M_h6 : MC h0 h6 m R (oM R tp 0 fp cn ha un dm wk hl pd pm cu ct dt hlt pdt pt (nI k) th (nI q9) (nI n)) SC PN V B LN PR PA VD DV Z P SC2 PN2 LN2 PR2 PA2 VD2 DV2 Z2 P2 (upd (fb_put PL (chG Mk key) (16384 * k) i) (16384 * k + i) (chG Mk key i)) O1 O2 := by rw [eh6]; exact M8.s20 _
                have h6_c := mcc M.c M_h6.c
                refine v_blk g [.iinc 8 1] (pc' := 288) (lv' := [(8, .int ((nI i) + (1 : Int32))), (2, .int key), (5, .int (nI Mk)), (0, .ref m)]) (st' := []) (by decide +kernel) rfl rfl ?_
                refine v_goto g (off := -71) (tgt := 217) (by decide +kernel) (by decide) ?_
                refine v_lv [0, 1, 2, 3] (lv' := [(8, .int ((nI i) + (1 : Int32))), (2, .int key), (5, .int (nI Mk)), (0, .ref m)]) rfl ?_
                exact v_eq (by rw [nI_1]) rfl (ih _ (by rw [← fb_put_succ]; exact M_h6))
          · refine v_blk g [.iload 8, .iload 5] (pc' := 249) (lv' := [(8, .int (nI i)), (2, .int key), (5, .int (nI Mk)), (0, .ref m)]) (st' := [.int (nI Mk), .int (nI i), .int (nI (16384 * k + i)), .ref (R 20)]) (by decide +kernel) rfl rfl ?_
            refine v_icmp_ne g (off := 7) (tgt := 256) (by decide +kernel) (by decide) (fun c3 => ?_) (fun c3 => ?_)
            · refine v_blk g [.iconst 0] (pc' := 257) (lv' := [(8, .int (nI i)), (2, .int key), (5, .int (nI Mk)), (0, .ref m)]) (st' := [.int (0 : Int32), .int (nI (16384 * k + i)), .ref (R 20)]) (by decide +kernel) rfl rfl ?_
              refine v_goto g (off := 27) (tgt := 284) (by decide +kernel) (by decide) ?_
              refine v_ti (z := chG Mk key i) (by rw [chG, if_pos c2, if_neg (fun e => c3 (by rw [e]))]) ?_
              refine v_zast g M8.k20 (by unfold chG; split <;> split <;> simp) (16384 * k + i) rfl (by omega) (Nat.le_of_ble_eq_true rfl) (by decide +kernel) ?_
              refine v_h (fun h6 eh6 => ?_)
              have M_h6 : MC h0 h6 m R (oM R tp 0 fp cn ha un dm wk hl pd pm cu ct dt hlt pdt pt (nI k) th (nI q9) (nI n)) SC PN V B LN PR PA VD DV Z P SC2 PN2 LN2 PR2 PA2 VD2 DV2 Z2 P2 (upd (fb_put PL (chG Mk key) (16384 * k) i) (16384 * k + i) (chG Mk key i)) O1 O2 := by rw [eh6]; exact M8.s20 _
              have h6_c := mcc M.c M_h6.c
              refine v_blk g [.iinc 8 1] (pc' := 288) (lv' := [(8, .int ((nI i) + (1 : Int32))), (2, .int key), (5, .int (nI Mk)), (0, .ref m)]) (st' := []) (by decide +kernel) rfl rfl ?_
              refine v_goto g (off := -71) (tgt := 217) (by decide +kernel) (by decide) ?_
              refine v_lv [0, 1, 2, 3] (lv' := [(8, .int ((nI i) + (1 : Int32))), (2, .int key), (5, .int (nI Mk)), (0, .ref m)]) rfl ?_
              exact v_eq (by rw [nI_1]) rfl (ih _ (by rw [← fb_put_succ]; exact M_h6))
            · refine v_blk g [.iconst 1] (pc' := 253) (lv' := [(8, .int (nI i)), (2, .int key), (5, .int (nI Mk)), (0, .ref m)]) (st' := [.int (1 : Int32), .int (nI (16384 * k + i)), .ref (R 20)]) (by decide +kernel) rfl rfl ?_
              refine v_goto g (off := 31) (tgt := 284) (by decide +kernel) (by decide) ?_
              refine v_ti (z := chG Mk key i) (by rw [chG, if_pos c2, if_pos ((nI_eq (by omega) (by omega)).mp c3)]) ?_
              refine v_zast g M8.k20 (by unfold chG; split <;> split <;> simp) (16384 * k + i) rfl (by omega) (Nat.le_of_ble_eq_true rfl) (by decide +kernel) ?_
              refine v_h (fun h6 eh6 => ?_)
              have M_h6 : MC h0 h6 m R (oM R tp 0 fp cn ha un dm wk hl pd pm cu ct dt hlt pdt pt (nI k) th (nI q9) (nI n)) SC PN V B LN PR PA VD DV Z P SC2 PN2 LN2 PR2 PA2 VD2 DV2 Z2 P2 (upd (fb_put PL (chG Mk key) (16384 * k) i) (16384 * k + i) (chG Mk key i)) O1 O2 := by rw [eh6]; exact M8.s20 _
              have h6_c := mcc M.c M_h6.c
              refine v_blk g [.iinc 8 1] (pc' := 288) (lv' := [(8, .int ((nI i) + (1 : Int32))), (2, .int key), (5, .int (nI Mk)), (0, .ref m)]) (st' := []) (by decide +kernel) rfl rfl ?_
              refine v_goto g (off := -71) (tgt := 217) (by decide +kernel) (by decide) ?_
              refine v_lv [0, 1, 2, 3] (lv' := [(8, .int ((nI i) + (1 : Int32))), (2, .int key), (5, .int (nI Mk)), (0, .ref m)]) rfl ?_
              exact v_eq (by rw [nI_1]) rfl (ih _ (by rw [← fb_put_succ]; exact M_h6))
      exact key9 0 (by omega) _ (by rw [fb_put_0]; exact M9)
    · have hres : cho (txt B n) p = .inl (2, p) := by
        rw [hcho, hr]
        refine if_pos ?_
        rcases hky with ⟨e1, e2, e3⟩ | ⟨-, e2⟩
        · refine ⟨e1, ?_⟩; rw [e2] at c; exact Classical.byContradiction (fun e => c (nI_le (by omega) (by omega)))
        · exact absurd (by rw [e2]; exact fa_trans2 (nI_pos' (by omega))) c
      refine v_blk g [.aload_n 0, .iconst 2, .iload_n 3] (pc' := 210) (lv' := [(2, .int key), (3, .int (nI p)), (5, .int (nI Mk)), (6, .int (nI (pcN Mk))), (0, .ref m)]) (st' := [.int (nI p), .int (2 : Int32), .ref m]) (by decide +kernel) rfl rfl ?_
      refine v_callVp g (rest := []) (m_fails M9.o _ _) cl_X8_137 M9.o rfl rfl (Nat.le_of_ble_eq_true rfl) (by decide +kernel) ⟨Nat.le_of_ble_eq_true rfl, Nat.le_of_ble_eq_true rfl⟩ (zcsn 0 0 g9_c.1 g9_c.2 (Nat.le_of_ble_eq_true rfl) (Nat.le_of_ble_eq_true rfl)) ?_
      show zV F X (z_s g9 m (oM R tp (nI 2) (nI p) cn ha un dm wk hl pd pm cu ct dt hlt pdt pt (nI k) th (nI q9) (nI n))) 213 [(2, .int key), (3, .int (nI p)), (5, .int (nI Mk)), (6, .int (nI (pcN Mk))), (0, .ref m)] [.int 0]
      exact v_zret g z rfl (by decide) (by decide +kernel) (Or.inl ⟨2, p, nI k, nI q9, PL, O1, O2, hres, rfl, M9.so _⟩) (zcrn 0 0 g9_c.1 g9_c.2 (Nat.le_of_ble_eq_true rfl) (Nat.le_of_ble_eq_true rfl))
  have loop : ∀ (ky : Bool) (key : Int32) (p0 : Nat), ((ky = true ∧ key = nI (numv (txt B n) p) ∧ numv (txt B n) p < 100) ∨ (ky = false ∧ key = -1)) → cho (txt B n) p = choE (txt B n) p ky (rmt (txt B n) 15 0 p0) → ∀ (j9 : Nat) (f Mk : Nat) (g9 : zH), rmt (txt B n) 15 0 p0 = rmt (txt B n) j9 Mk f → ¬ dg (txt B n) f = 0 → pcN Mk + j9 = 15 → Mk < 16384 → MC h0 g9 m R (oM R tp 0 fp cn ha un dm wk hl pd pm cu ct dt hlt pdt pt (nI k) th (nI (f + dg (txt B n) f)) (nI n)) SC PN V B LN PR PA VD DV Z P SC2 PN2 LN2 PR2 PA2 VD2 DV2 Z2 P2 PL O1 O2 → zV F X g9 94 [(4, .int (nI (numv (txt B n) f))), (1, .int (nI f)), (2, .int key), (3, .int (nI p)), (5, .int (nI Mk)), (6, .int (nI (pcN Mk))), (7, .int (1 : Int32)), (0, .ref m)] [] := by
    intro ky key p0 hky hcho
    refine z_ind ?_ ?_
    · intro f Mk g9 hr hd hj hMk M9; exact absurd (pcN14 hMk) (by omega)
    · intro j9 ih f Mk g9 hr hd hj hMk M9
      have de := dg_end hd
      have dl := dg_le (txt B n) f
      have vl := numv_lt hd
      have hr1 := hr.trans (rmt_s _ _ _ _ hd)
      have g9_c := mcc M.c M9.c
      refine v_blk g [.iload 7] (pc' := 96) (lv' := [(4, .int (nI (numv (txt B n) f))), (1, .int (nI f)), (2, .int key), (3, .int (nI p)), (5, .int (nI Mk)), (6, .int (nI (pcN Mk))), (7, .int (1 : Int32)), (0, .ref m)]) (st' := [.int (1 : Int32)]) (by decide +kernel) rfl rfl ?_
      refine v_if_eq g (off := 105) (tgt := 201) (by decide +kernel) (by decide) (fun c => absurd c (by decide)) (fun _ => ?_)
      refine v_blk g [.iload 4, .bipush 13] (pc' := 103) (lv' := [(4, .int (nI (numv (txt B n) f))), (1, .int (nI f)), (2, .int key), (3, .int (nI p)), (5, .int (nI Mk)), (6, .int (nI (pcN Mk))), (7, .int (1 : Int32)), (0, .ref m)]) (st' := [.int (13 : Int32), .int (nI (numv (txt B n) f))]) (by decide +kernel) rfl rfl ?_
      refine v_icmp_gt g (off := 14) (tgt := 117) (by decide +kernel) (by decide) (fun c => ?_) (fun c => ?_)
      · have c9 : 14 ≤ numv (txt B n) f := by have := (nI_lti (a := 13) (by decide) (by omega)).mp c; omega
        rw [if_pos (Or.inl c9)] at hr1
        refine v_blk g [.aload_n 0, .iconst 2, .iload_n 1] (pc' := 120) (lv' := [(4, .int (nI (numv (txt B n) f))), (1, .int (nI f)), (2, .int key), (3, .int (nI p)), (5, .int (nI Mk)), (6, .int (nI (pcN Mk))), (7, .int (1 : Int32)), (0, .ref m)]) (st' := [.int (nI f), .int (2 : Int32), .ref m]) (by decide +kernel) rfl rfl ?_
        refine v_callVp g (rest := []) (m_fails M9.o _ _) cl_X8_137 M9.o rfl rfl (Nat.le_of_ble_eq_true rfl) (by decide +kernel) ⟨Nat.le_of_ble_eq_true rfl, Nat.le_of_ble_eq_true rfl⟩ (zcsn 0 0 g9_c.1 g9_c.2 (Nat.le_of_ble_eq_true rfl) (Nat.le_of_ble_eq_true rfl)) ?_
        show zV F X (z_s g9 m (oM R tp (nI 2) (nI f) cn ha un dm wk hl pd pm cu ct dt hlt pdt pt (nI k) th (nI (f + dg (txt B n) f)) (nI n))) 123 [(4, .int (nI (numv (txt B n) f))), (1, .int (nI f)), (2, .int key), (3, .int (nI p)), (5, .int (nI Mk)), (6, .int (nI (pcN Mk))), (7, .int (1 : Int32)), (0, .ref m)] [.int 0]
        exact v_zret g z rfl (by decide) (by decide +kernel) (Or.inl ⟨2, f, nI k, nI (f + dg (txt B n) f), PL, O1, O2, (by rw [hcho, hr1]; rfl), rfl, M9.so _⟩) (zcrn 0 0 g9_c.1 g9_c.2 (Nat.le_of_ble_eq_true rfl) (Nat.le_of_ble_eq_true rfl))
      · have c9 : numv (txt B n) f < 14 := Classical.byContradiction (fun e => c (nI_lt (a := 13) (by omega) (by omega)))
        refine v_blk g [.iload 5, .iload 4, .ishr, .iconst 1, .iand, .iconst 1] (pc' := 114) (lv' := [(4, .int (nI (numv (txt B n) f))), (1, .int (nI f)), (2, .int key), (3, .int (nI p)), (5, .int (nI Mk)), (6, .int (nI (pcN Mk))), (7, .int (1 : Int32)), (0, .ref m)]) (st' := [.int (1 : Int32), .int (((nI Mk) >>> ((nI (numv (txt B n) f)) &&& (31 : Int32))) &&& (1 : Int32))]) (by decide +kernel) rfl rfl ?_
        refine v_icmp_ne g (off := 10) (tgt := 124) (by decide +kernel) (by decide) (fun c2 => ?_) (fun c2 => ?_)
        · have tb : Mk.testBit (numv (txt B n) f) = false := by
            cases e : Mk.testBit (numv (txt B n) f) with
            | false => rfl
            | true => exact absurd ((bit_c (by omega) (by omega)).mpr e) c2
          rw [if_neg (fun e => e.elim (fun e => by omega) (fun e => by rw [tb] at e; cases e))] at hr1
          have hM2 := or_lt14 hMk c9
          have hp2 := pcN_or (by omega) tb
          have p14 := pcN14 hM2
          refine v_blk g [.iload 5, .iconst 1, .iload 4, .ishl, .ior] (pc' := 131) (lv' := [(4, .int (nI (numv (txt B n) f))), (1, .int (nI f)), (2, .int key), (3, .int (nI p)), (5, .int (nI Mk)), (6, .int (nI (pcN Mk))), (7, .int (1 : Int32)), (0, .ref m)]) (st' := [.int ((nI Mk) ||| ((1 : Int32) <<< ((nI (numv (txt B n) f)) &&& (31 : Int32))))]) (by decide +kernel) rfl rfl ?_
          refine v_ti (z := nI (Mk ||| 2 ^ numv (txt B n) f)) (by rw [shp (by omega), fa_or]) ?_
          refine v_blk g [.istore 5, .iinc 6 1, .aload_n 0] (pc' := 137) (lv' := [(6, .int ((nI (pcN Mk)) + (1 : Int32))), (5, .int (nI (Mk ||| 2 ^ numv (txt B n) f))), (4, .int (nI (numv (txt B n) f))), (1, .int (nI f)), (2, .int key), (3, .int (nI p)), (7, .int (1 : Int32)), (0, .ref m)]) (st' := [.ref m]) (by decide +kernel) rfl rfl ?_
          refine v_callVp g (rest := []) (m_here M9.o M9.k3 hn (by omega)) cl_X8_123 M9.o rfl rfl (Nat.le_of_ble_eq_true rfl) (by decide +kernel) ⟨Nat.le_of_ble_eq_true rfl, Nat.le_of_ble_eq_true rfl⟩ (zcsn 0 0 g9_c.1 g9_c.2 (Nat.le_of_ble_eq_true rfl) (Nat.le_of_ble_eq_true rfl)) ?_
          show zV F X g9 140 [(6, .int ((nI (pcN Mk)) + (1 : Int32))), (5, .int (nI (Mk ||| 2 ^ numv (txt B n) f))), (4, .int (nI (numv (txt B n) f))), (1, .int (nI f)), (2, .int key), (3, .int (nI p)), (7, .int (1 : Int32)), (0, .ref m)] [.int (txt B n (f + dg (txt B n) f))]
          refine v_blk g [.bipush 46] (pc' := 142) (lv' := [(6, .int ((nI (pcN Mk)) + (1 : Int32))), (5, .int (nI (Mk ||| 2 ^ numv (txt B n) f))), (4, .int (nI (numv (txt B n) f))), (1, .int (nI f)), (2, .int key), (3, .int (nI p)), (7, .int (1 : Int32)), (0, .ref m)]) (st' := [.int (46 : Int32), .int (txt B n (f + dg (txt B n) f))]) (by decide +kernel) rfl rfl ?_
          refine v_icmp_ne g (off := 7) (tgt := 149) (by decide +kernel) (by decide) (fun c3 => ?_) (fun c3 => ?_)
          · rw [if_neg c3] at hr1
            refine v_blk g [.iconst 0, .istore 7, .iload 7] (pc' := 154) (lv' := [(7, .int (0 : Int32)), (6, .int ((nI (pcN Mk)) + (1 : Int32))), (5, .int (nI (Mk ||| 2 ^ numv (txt B n) f))), (4, .int (nI (numv (txt B n) f))), (1, .int (nI f)), (2, .int key), (3, .int (nI p)), (0, .ref m)]) (st' := [.int (0 : Int32)]) (by decide +kernel) rfl rfl ?_
            refine v_if_ne g (off := 6) (tgt := 160) (by decide +kernel) (by decide) (fun c => absurd c (fun e => e rfl)) (fun _ => ?_)
            refine v_goto g (off := -63) (tgt := 94) (by decide +kernel) (by decide) ?_
            refine v_blk g [.iload 7] (pc' := 96) (lv' := [(7, .int (0 : Int32)), (6, .int ((nI (pcN Mk)) + (1 : Int32))), (5, .int (nI (Mk ||| 2 ^ numv (txt B n) f))), (4, .int (nI (numv (txt B n) f))), (1, .int (nI f)), (2, .int key), (3, .int (nI p)), (0, .ref m)]) (st' := [.int (0 : Int32)]) (by decide +kernel) rfl rfl ?_
            refine v_if_eq g (off := 105) (tgt := 201) (by decide +kernel) (by decide) (fun _ => ?_) (fun c => absurd c (fun e => e rfl))
            refine v_lv [5, 6, 2, 1, 7] (lv' := [(2, .int key), (3, .int (nI p)), (5, .int (nI (Mk ||| 2 ^ numv (txt B n) f))), (6, .int ((nI (pcN Mk)) + (1 : Int32))), (0, .ref m)]) rfl ?_
            refine v_eq (by rw [nI_1, ← hp2]) rfl (tail ky key p0 hky hcho _ 0 _ 0 g9 hr1 hM2 M9)
          · rw [if_pos c3] at hr1
            have hin := txt_in c3 (by decide)
            refine v_blk g [.iconst 1] (pc' := 146) (lv' := [(6, .int ((nI (pcN Mk)) + (1 : Int32))), (5, .int (nI (Mk ||| 2 ^ numv (txt B n) f))), (4, .int (nI (numv (txt B n) f))), (1, .int (nI f)), (2, .int key), (3, .int (nI p)), (7, .int (1 : Int32)), (0, .ref m)]) (st' := [.int (1 : Int32)]) (by decide +kernel) rfl rfl ?_
            refine v_goto g (off := 4) (tgt := 150) (by decide +kernel) (by decide) ?_
            refine v_blk g [.istore 7, .iload 7] (pc' := 154) (lv' := [(7, .int (1 : Int32)), (6, .int ((nI (pcN Mk)) + (1 : Int32))), (5, .int (nI (Mk ||| 2 ^ numv (txt B n) f))), (4, .int (nI (numv (txt B n) f))), (1, .int (nI f)), (2, .int key), (3, .int (nI p)), (0, .ref m)]) (st' := [.int (1 : Int32)]) (by decide +kernel) rfl rfl ?_
            refine v_if_ne g (off := 6) (tgt := 160) (by decide +kernel) (by decide) (fun _ => ?_) (fun c => absurd c (by decide))
            refine v_blk g [.aload_n 0, .dup] (pc' := 162) (lv' := [(7, .int (1 : Int32)), (6, .int ((nI (pcN Mk)) + (1 : Int32))), (5, .int (nI (Mk ||| 2 ^ numv (txt B n) f))), (4, .int (nI (numv (txt B n) f))), (1, .int (nI f)), (2, .int key), (3, .int (nI p)), (0, .ref m)]) (st' := [.ref m, .ref m]) (by decide +kernel) rfl rfl ?_
            refine v_get g M9.o fl_X8_117 rfl (by decide +kernel) ?_
            refine v_blk g [.iconst 1, .iadd] (pc' := 167) (lv' := [(7, .int (1 : Int32)), (6, .int ((nI (pcN Mk)) + (1 : Int32))), (5, .int (nI (Mk ||| 2 ^ numv (txt B n) f))), (4, .int (nI (numv (txt B n) f))), (1, .int (nI f)), (2, .int key), (3, .int (nI p)), (0, .ref m)]) (st' := [.int ((nI (f + dg (txt B n) f)) + (1 : Int32)), .ref m]) (by decide +kernel) rfl rfl ?_
            refine v_ti (z := nI (f + dg (txt B n) f + 1)) (nI_1 _) ?_
            refine v_put g (fs' := oMl R tp 0 fp cn ha un dm wk hl pd pm cu ct dt hlt pdt pt (nI k) th (nI (f + dg (txt B n) f + 1)) (nI n)) M9.o fl_X8_117 rfl rfl (Nat.le_of_ble_eq_true rfl) rfl (by decide +kernel) ?_
            refine v_h (fun h3 eh3 => ?_)
            have M_h3 : MC h0 h3 m R (oM R tp 0 fp cn ha un dm wk hl pd pm cu ct dt hlt pdt pt (nI k) th (nI (f + dg (txt B n) f + 1)) (nI n)) SC PN V B LN PR PA VD DV Z P SC2 PN2 LN2 PR2 PA2 VD2 DV2 Z2 P2 PL O1 O2 := by rw [eh3]; exact M9.so _
            have h3_c := mcc M.c M_h3.c
            refine v_blk g [.aload_n 0] (pc' := 171) (lv' := [(7, .int (1 : Int32)), (6, .int ((nI (pcN Mk)) + (1 : Int32))), (5, .int (nI (Mk ||| 2 ^ numv (txt B n) f))), (4, .int (nI (numv (txt B n) f))), (1, .int (nI f)), (2, .int key), (3, .int (nI p)), (0, .ref m)]) (st' := [.ref m]) (by decide +kernel) rfl rfl ?_
            refine v_callVp g (rest := []) (m_isDigit M_h3.o M_h3.k3 hn (by omega)) cl_X8_133 M_h3.o rfl rfl (Nat.le_of_ble_eq_true rfl) (by decide +kernel) ⟨Nat.le_of_ble_eq_true rfl, Nat.le_of_ble_eq_true rfl⟩ (zcsn 0 0 h3_c.1 h3_c.2 (Nat.le_of_ble_eq_true rfl) (Nat.le_of_ble_eq_true rfl)) ?_
            show zV F X h3 174 [(7, .int (1 : Int32)), (6, .int ((nI (pcN Mk)) + (1 : Int32))), (5, .int (nI (Mk ||| 2 ^ numv (txt B n) f))), (4, .int (nI (numv (txt B n) f))), (1, .int (nI f)), (2, .int key), (3, .int (nI p)), (0, .ref m)] [.int (x_digit (txt B n (f + dg (txt B n) f + 1)))]
            obtain ⟨j8, rfl⟩ : ∃ j8, j9 = j8 + 1 := ⟨j9 - 1, by omega⟩
            refine v_if_ne g (off := 13) (tgt := 187) (by decide +kernel) (by decide) (fun c4 => ?_) (fun c4 => ?_)
            · have hd2 : ¬ dg (txt B n) (f + dg (txt B n) f + 1) = 0 := by rw [dg, if_neg c4]; split <;> decide
              refine v_blk g [.aload_n 0] (pc' := 188) (lv' := [(7, .int (1 : Int32)), (6, .int ((nI (pcN Mk)) + (1 : Int32))), (5, .int (nI (Mk ||| 2 ^ numv (txt B n) f))), (4, .int (nI (numv (txt B n) f))), (1, .int (nI f)), (2, .int key), (3, .int (nI p)), (0, .ref m)]) (st' := [.ref m]) (by decide +kernel) rfl rfl ?_
              refine v_get g M_h3.o fl_X8_117 rfl (by decide +kernel) ?_
              refine v_blk g [.istore_n 1, .aload_n 0] (pc' := 193) (lv' := [(1, .int (nI (f + dg (txt B n) f + 1))), (7, .int (1 : Int32)), (6, .int ((nI (pcN Mk)) + (1 : Int32))), (5, .int (nI (Mk ||| 2 ^ numv (txt B n) f))), (4, .int (nI (numv (txt B n) f))), (2, .int key), (3, .int (nI p)), (0, .ref m)]) (st' := [.ref m]) (by decide +kernel) rfl rfl ?_
              refine v_callVp g (rest := []) (m_number M_h3.o M_h3.k3 hn (by omega) hd2) cl_X8_141 M_h3.o rfl rfl (Nat.le_of_ble_eq_true rfl) (by decide +kernel) ⟨Nat.le_of_ble_eq_true rfl, Nat.le_of_ble_eq_true rfl⟩ (zcsn 0 0 h3_c.1 h3_c.2 (Nat.le_of_ble_eq_true rfl) (Nat.le_of_ble_eq_true rfl)) ?_
              show zV F X (z_s h3 m (oM R tp 0 fp cn ha un dm wk hl pd pm cu ct dt hlt pdt pt (nI k) th (nI (f + dg (txt B n) f + 1 + dg (txt B n) (f + dg (txt B n) f + 1))) (nI n))) 196 [(1, .int (nI (f + dg (txt B n) f + 1))), (7, .int (1 : Int32)), (6, .int ((nI (pcN Mk)) + (1 : Int32))), (5, .int (nI (Mk ||| 2 ^ numv (txt B n) f))), (4, .int (nI (numv (txt B n) f))), (2, .int key), (3, .int (nI p)), (0, .ref m)] [.int (nI (numv (txt B n) (f + dg (txt B n) f + 1)))]
              refine v_blk g [.istore 4] (pc' := 198) (lv' := [(4, .int (nI (numv (txt B n) (f + dg (txt B n) f + 1)))), (1, .int (nI (f + dg (txt B n) f + 1))), (7, .int (1 : Int32)), (6, .int ((nI (pcN Mk)) + (1 : Int32))), (5, .int (nI (Mk ||| 2 ^ numv (txt B n) f))), (2, .int key), (3, .int (nI p)), (0, .ref m)]) (st' := []) (by decide +kernel) rfl rfl ?_
              refine v_goto g (off := -104) (tgt := 94) (by decide +kernel) (by decide) ?_
              refine v_lv [0, 1, 5, 6, 4, 3, 2, 7] (lv' := [(4, .int (nI (numv (txt B n) (f + dg (txt B n) f + 1)))), (1, .int (nI (f + dg (txt B n) f + 1))), (2, .int key), (3, .int (nI p)), (5, .int (nI (Mk ||| 2 ^ numv (txt B n) f))), (6, .int ((nI (pcN Mk)) + (1 : Int32))), (7, .int (1 : Int32)), (0, .ref m)]) rfl ?_
              exact v_eq (by rw [nI_1, ← hp2]) rfl (ih _ _ _ hr1 hd2 (by omega) hM2 (M_h3.so _))
            · have hd2 : dg (txt B n) (f + dg (txt B n) f + 1) = 0 := by rw [dg, if_pos c4]
              rw [rmt_z _ _ _ _ hd2] at hr1
              refine v_blk g [.aload_n 0, .iconst 1, .aload_n 0] (pc' := 180) (lv' := [(7, .int (1 : Int32)), (6, .int ((nI (pcN Mk)) + (1 : Int32))), (5, .int (nI (Mk ||| 2 ^ numv (txt B n) f))), (4, .int (nI (numv (txt B n) f))), (1, .int (nI f)), (2, .int key), (3, .int (nI p)), (0, .ref m)]) (st' := [.ref m, .int (1 : Int32), .ref m]) (by decide +kernel) rfl rfl ?_
              refine v_get g M_h3.o fl_X8_117 rfl (by decide +kernel) ?_
              refine v_callVp g (rest := []) (m_fails M_h3.o _ _) cl_X8_137 M_h3.o rfl rfl (Nat.le_of_ble_eq_true rfl) (by decide +kernel) ⟨Nat.le_of_ble_eq_true rfl, Nat.le_of_ble_eq_true rfl⟩ (zcsn 0 0 h3_c.1 h3_c.2 (Nat.le_of_ble_eq_true rfl) (Nat.le_of_ble_eq_true rfl)) ?_
              show zV F X (z_s h3 m (oM R tp (nI 1) (nI (f + dg (txt B n) f + 1)) cn ha un dm wk hl pd pm cu ct dt hlt pdt pt (nI k) th (nI (f + dg (txt B n) f + 1)) (nI n))) 186 [(7, .int (1 : Int32)), (6, .int ((nI (pcN Mk)) + (1 : Int32))), (5, .int (nI (Mk ||| 2 ^ numv (txt B n) f))), (4, .int (nI (numv (txt B n) f))), (1, .int (nI f)), (2, .int key), (3, .int (nI p)), (0, .ref m)] [.int 0]
              exact v_zret g z rfl (by decide) (by decide +kernel) (Or.inl ⟨1, (f + dg (txt B n) f + 1), nI k, nI (f + dg (txt B n) f + 1), PL, O1, O2, (by rw [hcho, hr1]; rfl), rfl, M_h3.so _⟩) (zcrn 0 0 h3_c.1 h3_c.2 (Nat.le_of_ble_eq_true rfl) (Nat.le_of_ble_eq_true rfl))
        · have tb : Mk.testBit (numv (txt B n) f) = true := (bit_c (by omega) (by omega)).mp c2
          rw [if_pos (Or.inr tb)] at hr1
          refine v_blk g [.aload_n 0, .iconst 2, .iload_n 1] (pc' := 120) (lv' := [(4, .int (nI (numv (txt B n) f))), (1, .int (nI f)), (2, .int key), (3, .int (nI p)), (5, .int (nI Mk)), (6, .int (nI (pcN Mk))), (7, .int (1 : Int32)), (0, .ref m)]) (st' := [.int (nI f), .int (2 : Int32), .ref m]) (by decide +kernel) rfl rfl ?_
          refine v_callVp g (rest := []) (m_fails M9.o _ _) cl_X8_137 M9.o rfl rfl (Nat.le_of_ble_eq_true rfl) (by decide +kernel) ⟨Nat.le_of_ble_eq_true rfl, Nat.le_of_ble_eq_true rfl⟩ (zcsn 0 0 g9_c.1 g9_c.2 (Nat.le_of_ble_eq_true rfl) (Nat.le_of_ble_eq_true rfl)) ?_
          show zV F X (z_s g9 m (oM R tp (nI 2) (nI f) cn ha un dm wk hl pd pm cu ct dt hlt pdt pt (nI k) th (nI (f + dg (txt B n) f)) (nI n))) 123 [(4, .int (nI (numv (txt B n) f))), (1, .int (nI f)), (2, .int key), (3, .int (nI p)), (5, .int (nI Mk)), (6, .int (nI (pcN Mk))), (7, .int (1 : Int32)), (0, .ref m)] [.int 0]
          exact v_zret g z rfl (by decide) (by decide +kernel) (Or.inl ⟨2, f, nI k, nI (f + dg (txt B n) f), PL, O1, O2, (by rw [hcho, hr1]; rfl), rfl, M9.so _⟩) (zcrn 0 0 g9_c.1 g9_c.2 (Nat.le_of_ble_eq_true rfl) (Nat.le_of_ble_eq_true rfl))
  refine v_blk g [.aload_n 0] (pc' := 1) (lv' := [(0, .ref m)]) (st' := [.ref m]) (by decide +kernel) rfl rfl ?_
  refine v_callVp g (rest := []) (m_isDigit M.o M.k3 hn (by omega)) cl_X8_133 M.o rfl rfl (Nat.le_of_ble_eq_true rfl) (by decide +kernel) ⟨Nat.le_of_ble_eq_true rfl, Nat.le_of_ble_eq_true rfl⟩ (zcsn 0 0 rfl rfl (Nat.le_of_ble_eq_true rfl) (Nat.le_of_ble_eq_true rfl)) ?_
  show zV F X h 4 [(0, .ref m)] [.int (x_digit (txt B n p))]
  refine v_if_ne g (off := 13) (tgt := 17) (by decide +kernel) (by decide) (fun c => ?_) (fun c => ?_)
  · have hd : ¬ dg (txt B n) p = 0 := by rw [dg, if_neg c]; split <;> decide
    have de := dg_end hd
    have hnum := numv_lt hd
    have dl := dg_le (txt B n) p
    refine v_blk g [.aload_n 0] (pc' := 18) (lv' := [(0, .ref m)]) (st' := [.ref m]) (by decide +kernel) rfl rfl ?_
    refine v_get g M.o fl_X8_117 rfl (by decide +kernel) ?_
    refine v_blk g [.istore_n 1, .iconst (-1), .istore_n 2, .aload_n 0] (pc' := 25) (lv' := [(2, .int (-1 : Int32)), (1, .int (nI p)), (0, .ref m)]) (st' := [.ref m]) (by decide +kernel) rfl rfl ?_
    refine v_get g M.o fl_X8_117 rfl (by decide +kernel) ?_
    refine v_blk g [.istore_n 3, .aload_n 0] (pc' := 30) (lv' := [(3, .int (nI p)), (2, .int (-1 : Int32)), (1, .int (nI p)), (0, .ref m)]) (st' := [.ref m]) (by decide +kernel) rfl rfl ?_
    refine v_callVp g (rest := []) (m_number M.o M.k3 hn (by omega) hd) cl_X8_141 M.o rfl rfl (Nat.le_of_ble_eq_true rfl) (by decide +kernel) ⟨Nat.le_of_ble_eq_true rfl, Nat.le_of_ble_eq_true rfl⟩ (zcsn 0 0 rfl rfl (Nat.le_of_ble_eq_true rfl) (Nat.le_of_ble_eq_true rfl)) ?_
    show zV F X (z_s h m (oM R tp 0 fp cn ha un dm wk hl pd pm cu ct dt hlt pdt pt (nI k) th (nI (p + dg (txt B n) p)) (nI n))) 33 [(3, .int (nI p)), (2, .int (-1 : Int32)), (1, .int (nI p)), (0, .ref m)] [.int (nI (numv (txt B n) p))]
    have M1 := M.so (oM R tp 0 fp cn ha un dm wk hl pd pm cu ct dt hlt pdt pt (nI k) th (nI (p + dg (txt B n) p)) (nI n))
    refine v_h (fun h1 eh1 => ?_)
    rw [← eh1] at M1
    have h1_c := mcc M.c M1.c
    refine v_blk g [.istore 4] (pc' := 35) (lv' := [(4, .int (nI (numv (txt B n) p))), (3, .int (nI p)), (2, .int (-1 : Int32)), (1, .int (nI p)), (0, .ref m)]) (st' := []) (by decide +kernel) rfl rfl ?_
    refine v_blk g [.aload_n 0] (pc' := 36) (lv' := [(4, .int (nI (numv (txt B n) p))), (3, .int (nI p)), (2, .int (-1 : Int32)), (1, .int (nI p)), (0, .ref m)]) (st' := [.ref m]) (by decide +kernel) rfl rfl ?_
    refine v_callVp g (rest := []) (m_here M1.o M1.k3 hn (by omega)) cl_X8_123 M1.o rfl rfl (Nat.le_of_ble_eq_true rfl) (by decide +kernel) ⟨Nat.le_of_ble_eq_true rfl, Nat.le_of_ble_eq_true rfl⟩ (zcsn 0 0 h1_c.1 h1_c.2 (Nat.le_of_ble_eq_true rfl) (Nat.le_of_ble_eq_true rfl)) ?_
    show zV F X h1 39 [(4, .int (nI (numv (txt B n) p))), (3, .int (nI p)), (2, .int (-1 : Int32)), (1, .int (nI p)), (0, .ref m)] [.int (txt B n (p + dg (txt B n) p))]
    refine v_blk g [.bipush 58] (pc' := 41) (lv' := [(4, .int (nI (numv (txt B n) p))), (3, .int (nI p)), (2, .int (-1 : Int32)), (1, .int (nI p)), (0, .ref m)]) (st' := [.int (58 : Int32), .int (txt B n (p + dg (txt B n) p))]) (by decide +kernel) rfl rfl ?_
    refine v_icmp_ne g (off := 44) (tgt := 85) (by decide +kernel) (by decide) (fun c2 => ?_) (fun c2 => ?_)
    · have hcho : cho (txt B n) p = choE (txt B n) p false (rmt (txt B n) 15 0 p) := by rw [cho, if_neg (fun e => c2 e.2)]
      refine v_blk g [.iconst 0, .istore 5, .iconst 0, .istore 6, .iconst 1, .istore 7] (pc' := 94) (lv' := [(7, .int (1 : Int32)), (6, .int (0 : Int32)), (5, .int (0 : Int32)), (4, .int (nI (numv (txt B n) p))), (3, .int (nI p)), (2, .int (-1 : Int32)), (1, .int (nI p)), (0, .ref m)]) (st' := []) (by decide +kernel) rfl rfl ?_
      refine v_lv [3, 6, 5, 4, 2, 1, 0, 7] (lv' := [(4, .int (nI (numv (txt B n) p))), (1, .int (nI p)), (2, .int (-1 : Int32)), (3, .int (nI p)), (5, .int (0 : Int32)), (6, .int (0 : Int32)), (7, .int (1 : Int32)), (0, .ref m)]) rfl ?_
      exact v_eq (by rfl) rfl (loop false (-1) p (Or.inr ⟨rfl, rfl⟩) hcho 15 p 0 h1 rfl hd rfl (by decide) M1)
    · have hcho : cho (txt B n) p = choE (txt B n) p true (rmt (txt B n) 15 0 (p + dg (txt B n) p + 1)) := by rw [cho, if_pos ⟨hd, c2⟩]
      have hin := txt_in c2 (by decide)
      refine v_blk g [.iload 4, .istore_n 2, .aload_n 0, .dup] (pc' := 49) (lv' := [(2, .int (nI (numv (txt B n) p))), (4, .int (nI (numv (txt B n) p))), (3, .int (nI p)), (1, .int (nI p)), (0, .ref m)]) (st' := [.ref m, .ref m]) (by decide +kernel) rfl rfl ?_
      refine v_get g M1.o fl_X8_117 rfl (by decide +kernel) ?_
      refine v_blk g [.iconst 1, .iadd] (pc' := 54) (lv' := [(2, .int (nI (numv (txt B n) p))), (4, .int (nI (numv (txt B n) p))), (3, .int (nI p)), (1, .int (nI p)), (0, .ref m)]) (st' := [.int ((nI (p + dg (txt B n) p)) + (1 : Int32)), .ref m]) (by decide +kernel) rfl rfl ?_
      refine v_ti (z := nI (p + dg (txt B n) p + 1)) (nI_1 _) ?_
      refine v_put g (fs' := oMl R tp 0 fp cn ha un dm wk hl pd pm cu ct dt hlt pdt pt (nI k) th (nI (p + dg (txt B n) p + 1)) (nI n)) M1.o fl_X8_117 rfl rfl (Nat.le_of_ble_eq_true rfl) rfl (by decide +kernel) ?_
      refine v_h (fun h2 eh2 => ?_)
      have M_h2 : MC h0 h2 m R (oM R tp 0 fp cn ha un dm wk hl pd pm cu ct dt hlt pdt pt (nI k) th (nI (p + dg (txt B n) p + 1)) (nI n)) SC PN V B LN PR PA VD DV Z P SC2 PN2 LN2 PR2 PA2 VD2 DV2 Z2 P2 PL O1 O2 := by rw [eh2]; exact M1.so _
      have h2_c := mcc M.c M_h2.c
      refine v_blk g [.aload_n 0] (pc' := 58) (lv' := [(2, .int (nI (numv (txt B n) p))), (4, .int (nI (numv (txt B n) p))), (3, .int (nI p)), (1, .int (nI p)), (0, .ref m)]) (st' := [.ref m]) (by decide +kernel) rfl rfl ?_
      refine v_callVp g (rest := []) (m_isDigit M_h2.o M_h2.k3 hn (by omega)) cl_X8_133 M_h2.o rfl rfl (Nat.le_of_ble_eq_true rfl) (by decide +kernel) ⟨Nat.le_of_ble_eq_true rfl, Nat.le_of_ble_eq_true rfl⟩ (zcsn 0 0 h2_c.1 h2_c.2 (Nat.le_of_ble_eq_true rfl) (Nat.le_of_ble_eq_true rfl)) ?_
      show zV F X h2 61 [(2, .int (nI (numv (txt B n) p))), (4, .int (nI (numv (txt B n) p))), (3, .int (nI p)), (1, .int (nI p)), (0, .ref m)] [.int (x_digit (txt B n (p + dg (txt B n) p + 1)))]
      refine v_if_ne g (off := 13) (tgt := 74) (by decide +kernel) (by decide) (fun c4 => ?_) (fun c4 => ?_)
      · have hd2 : ¬ dg (txt B n) (p + dg (txt B n) p + 1) = 0 := by rw [dg, if_neg c4]; split <;> decide
        refine v_blk g [.aload_n 0] (pc' := 75) (lv' := [(2, .int (nI (numv (txt B n) p))), (4, .int (nI (numv (txt B n) p))), (3, .int (nI p)), (1, .int (nI p)), (0, .ref m)]) (st' := [.ref m]) (by decide +kernel) rfl rfl ?_
        refine v_get g M_h2.o fl_X8_117 rfl (by decide +kernel) ?_
        refine v_blk g [.istore_n 1, .aload_n 0] (pc' := 80) (lv' := [(1, .int (nI (p + dg (txt B n) p + 1))), (2, .int (nI (numv (txt B n) p))), (4, .int (nI (numv (txt B n) p))), (3, .int (nI p)), (0, .ref m)]) (st' := [.ref m]) (by decide +kernel) rfl rfl ?_
        refine v_callVp g (rest := []) (m_number M_h2.o M_h2.k3 hn (by omega) hd2) cl_X8_141 M_h2.o rfl rfl (Nat.le_of_ble_eq_true rfl) (by decide +kernel) ⟨Nat.le_of_ble_eq_true rfl, Nat.le_of_ble_eq_true rfl⟩ (zcsn 0 0 h2_c.1 h2_c.2 (Nat.le_of_ble_eq_true rfl) (Nat.le_of_ble_eq_true rfl)) ?_
        show zV F X (z_s h2 m (oM R tp 0 fp cn ha un dm wk hl pd pm cu ct dt hlt pdt pt (nI k) th (nI (p + dg (txt B n) p + 1 + dg (txt B n) (p + dg (txt B n) p + 1))) (nI n))) 83 [(1, .int (nI (p + dg (txt B n) p + 1))), (2, .int (nI (numv (txt B n) p))), (4, .int (nI (numv (txt B n) p))), (3, .int (nI p)), (0, .ref m)] [.int (nI (numv (txt B n) (p + dg (txt B n) p + 1)))]
        refine v_blk g [.istore 4, .iconst 0, .istore 5, .iconst 0, .istore 6, .iconst 1, .istore 7] (pc' := 94) (lv' := [(7, .int (1 : Int32)), (6, .int (0 : Int32)), (5, .int (0 : Int32)), (4, .int (nI (numv (txt B n) (p + dg (txt B n) p + 1)))), (1, .int (nI (p + dg (txt B n) p + 1))), (2, .int (nI (numv (txt B n) p))), (3, .int (nI p)), (0, .ref m)]) (st' := []) (by decide +kernel) rfl rfl ?_
        refine v_lv [3, 4, 5, 6, 2, 1, 0, 7] (lv' := [(4, .int (nI (numv (txt B n) (p + dg (txt B n) p + 1)))), (1, .int (nI (p + dg (txt B n) p + 1))), (2, .int (nI (numv (txt B n) p))), (3, .int (nI p)), (5, .int (0 : Int32)), (6, .int (0 : Int32)), (7, .int (1 : Int32)), (0, .ref m)]) rfl ?_
        exact v_eq (by rfl) rfl (loop true (nI (numv (txt B n) p)) _ (Or.inl ⟨rfl, rfl, hnum⟩) hcho 15 _ 0 _ rfl hd2 rfl (by decide) (M_h2.so _))
      · have hd2 : dg (txt B n) (p + dg (txt B n) p + 1) = 0 := by rw [dg, if_pos c4]
        refine v_blk g [.aload_n 0, .iconst 1, .aload_n 0] (pc' := 67) (lv' := [(2, .int (nI (numv (txt B n) p))), (4, .int (nI (numv (txt B n) p))), (3, .int (nI p)), (1, .int (nI p)), (0, .ref m)]) (st' := [.ref m, .int (1 : Int32), .ref m]) (by decide +kernel) rfl rfl ?_
        refine v_get g M_h2.o fl_X8_117 rfl (by decide +kernel) ?_
        refine v_callVp g (rest := []) (m_fails M_h2.o _ _) cl_X8_137 M_h2.o rfl rfl (Nat.le_of_ble_eq_true rfl) (by decide +kernel) ⟨Nat.le_of_ble_eq_true rfl, Nat.le_of_ble_eq_true rfl⟩ (zcsn 0 0 h2_c.1 h2_c.2 (Nat.le_of_ble_eq_true rfl) (Nat.le_of_ble_eq_true rfl)) ?_
        show zV F X (z_s h2 m (oM R tp (nI 1) (nI (p + dg (txt B n) p + 1)) cn ha un dm wk hl pd pm cu ct dt hlt pdt pt (nI k) th (nI (p + dg (txt B n) p + 1)) (nI n))) 73 [(2, .int (nI (numv (txt B n) p))), (4, .int (nI (numv (txt B n) p))), (3, .int (nI p)), (1, .int (nI p)), (0, .ref m)] [.int 0]
        exact v_zret g z rfl (by decide) (by decide +kernel) (Or.inl ⟨1, (p + dg (txt B n) p + 1), nI k, nI (p + dg (txt B n) p + 1), PL, O1, O2, (by rw [hcho, rmt_z _ _ _ _ hd2]; rfl), rfl, M_h2.so _⟩) (zcrn 0 0 h2_c.1 h2_c.2 (Nat.le_of_ble_eq_true rfl) (Nat.le_of_ble_eq_true rfl))
  · have hd : dg (txt B n) p = 0 := by rw [dg, if_pos c]
    refine v_blk g [.aload_n 0, .iconst 1, .aload_n 0] (pc' := 10) (lv' := [(0, .ref m)]) (st' := [.ref m, .int (1 : Int32), .ref m]) (by decide +kernel) rfl rfl ?_
    refine v_get g M.o fl_X8_117 rfl (by decide +kernel) ?_
    refine v_callVp g (rest := []) (m_fails M.o _ _) cl_X8_137 M.o rfl rfl (Nat.le_of_ble_eq_true rfl) (by decide +kernel) ⟨Nat.le_of_ble_eq_true rfl, Nat.le_of_ble_eq_true rfl⟩ (zcsn 0 0 rfl rfl (Nat.le_of_ble_eq_true rfl) (Nat.le_of_ble_eq_true rfl)) ?_
    show zV F X (z_s h m (oM R tp (nI 1) (nI p) cn ha un dm wk hl pd pm cu ct dt hlt pdt pt (nI k) th (nI p) (nI n))) 16 [(0, .ref m)] [.int 0]
    exact v_zret g z rfl (by decide) (by decide +kernel) (Or.inl ⟨1, p, nI k, nI p, PL, O1, O2, (by rw [cho, if_neg (fun e => e.1 hd), rmt_z _ _ _ _ hd]; rfl), rfl, M.so _⟩) (zcrn 0 0 rfl rfl (Nat.le_of_ble_eq_true rfl) (Nat.le_of_ble_eq_true rfl))
