/-! rows for ends that are known: an answer and a heap -/
def zP (h0 : zH) (v0 : Option Value) : Option Value → zH → Prop := fun v h => v = v0 ∧ h = h0
def z_nk (x z : zE) : Bool := match x, z with
  | .inl a, .inl b => !(a.1 == b.1 && a.2.1 == b.2.1)
  | .inr a, .inr b => !(a.1 == b.1)
  | _, _ => true
theorem z_nk_self (x : zE) : z_nk x x = false := by
  cases x <;> simp [z_nk]
theorem z_ne {h : zH} {a b : Nat} {x z : zE} (ha : h.1 a = some x) (hb : h.1 b = some z) (hk : z_nk x z = true) : a ≠ b := fun e => by
  subst e
  rw [ha] at hb
  cases hb
  rw [z_nk_self] at hk
  cases hk
theorem z_nn {h : zH} {a q : Nat} {x : zE} (ha : h.1 a = some x) (hq : h.1 q = none) : a ≠ q := fun e => by
  subst e
  rw [ha] at hq
  cases hq
theorem z_so {h : zH} {a b : Nat} {x z : zE} (hb : h.1 b = some z) (hne : b ≠ a) : (z_s h a x).1 b = some z := (z_s_ne hne).trans hb
theorem z_no {h : zH} {a b k : Nat} {x z : zE} (hb : h.1 b = some z) (hq : h.1 a = none) : (z_n h a x k).1 b = some z := (z_n_ne (z_nn hb hq)).trans hb
theorem z_ss (h : zH) (a : Nat) (x z : zE) : z_s (z_s h a x) a z = z_s h a z := by
  unfold z_s
  congr 1
  funext b
  by_cases hb : b = a <;> simp [hb]
theorem z_sid {h : zH} {a : Nat} {x : zE} (ha : h.1 a = some x) : z_s h a x = h := by
  unfold z_s
  obtain ⟨f, c⟩ := h
  congr 1
  funext b
  by_cases hb : b = a
  · subst hb; simp; exact ha.symm
  · simp [hb]
theorem z_scomm (h : zH) {a b : Nat} (x z : zE) (hab : a ≠ b) : z_s (z_s h a x) b z = z_s (z_s h b z) a x := by
  unfold z_s
  congr 1
  funext q
  by_cases h1 : q = a
  · by_cases h2 : q = b
    · exact absurd (h1.symm.trans h2) hab
    · simp [h1, hab]
  · by_cases h2 : q = b
    · subst h2; simp [h1]
    · simp [h1, h2]
theorem zcs0 {c : Nat × Nat} {rm2 rm : Room} (h1 : rm2.cells ≤ rm.cells) (h2 : rm2.slots ≤ rm.slots) : c.1 + rm2.cells ≤ c.1 + rm.cells ∧ c.2 + rm2.slots ≤ c.2 + rm.slots := ⟨by omega, by omega⟩
theorem zcr0 {c : Nat × Nat} {rm : Room} : c.1 ≤ c.1 + rm.cells ∧ c.2 ≤ c.2 + rm.slots := ⟨by omega, by omega⟩
/-- upwards from i to e, told backwards -/
theorem z_up {P : Nat → Prop} (e : Nat) (hx : P e) (hs : ∀ i, i < e → P (i + 1) → P i) : ∀ i, i ≤ e → P i := by
  have key : ∀ n i, i + n = e → P i := by
    intro n
    induction n with
    | zero => intro i hi; rw [show i = e by omega]; exact hx
    | succ n ih => intro i hi; exact hs i (by omega) (ih (i + 1) (by omega))
  intro i hi
  exact key (e - i) i (by omega)
section VE
variable {F : zF} {X : zX} {y : MethodName} {cc : ByteArray} {nL : Nat} {ret : Option FieldType} {rm : Room} {cn : Nat × Nat} {h : zH} {pc : Nat} {lv lv' : zLv} {st st' : List Value}
theorem v_eq (h1 : lv = lv') (h2 : st = st') (kk : zV F X h pc lv' st') : zV F X h pc lv st := by subst h1; subst h2; exact kk
theorem v_eqh {h' : zH} (h1 : h = h') (kk : zV F X h' pc lv st) : zV F X h pc lv st := by subst h1; exact kk
theorem v_callVp (g : zG F X y cc nL ret rm cn) {y2 : MethodName} {cc2 : ByteArray} {nL2 idx b ci : Nat} {ret2 : Option FieldType} {rm2 : Room} {As rest fs : List Value} {h2 : zH} {v2 : Option Value} (hM : zMet F y2 cc2 nL2 ret2 rm2 (.ref b :: As) h (zP h2 v2)) (L : zCV y.cls idx y2 cc2 nL2 ret2 As.length) (hb2 : h.1 b = some (oB ci fs)) (hci : vwCl[ci]?.map (fun q => q.1) = some y2.cls) (hst : st = As.reverse ++ .ref b :: rest) (hw : (rest.map fun v => v.category).sum ≤ 8) (hd : decode cc pc = .ok (.invokevirtual idx, 3)) (hRm : rm2.frames + 1 ≤ rm.frames ∧ 8 + (nL2 + 11) + rm2.locals ≤ rm.locals) (hcs : h.2.1 + rm2.cells ≤ cn.1 + rm.cells ∧ h.2.2 + rm2.slots ≤ cn.2 + rm.slots)
    (kk : zV F X h2 (pc + 3) lv (v2.toList ++ rest)) : zV F X h pc lv st :=
  v_callV g hM L hb2 hci hst hw hd hRm hcs (fun v h' hp => by obtain ⟨rfl, rfl⟩ := hp; exact kk)
theorem v_callSp (g : zG F X y cc nL ret rm cn) {y2 : MethodName} {cc2 : ByteArray} {nL2 idx : Nat} {ret2 : Option FieldType} {rm2 : Room} {As rest : List Value} {h2 : zH} {v2 : Option Value} (hM : zMet F y2 cc2 nL2 ret2 rm2 As h (zP h2 v2)) (L : zCS y.cls idx y2 cc2 nL2 ret2 As.length) (hst : st = As.reverse ++ rest) (hw : (rest.map fun v => v.category).sum ≤ 8) (hd : decode cc pc = .ok (.invokestatic idx, 3)) (hRm : rm2.frames + 1 ≤ rm.frames ∧ 8 + (nL2 + 11) + rm2.locals ≤ rm.locals) (hcs : h.2.1 + rm2.cells ≤ cn.1 + rm.cells ∧ h.2.2 + rm2.slots ≤ cn.2 + rm.slots)
    (kk : zV F X h2 (pc + 3) lv (v2.toList ++ rest)) : zV F X h pc lv st :=
  v_callS g hM L hst hw hd hRm hcs (fun v h' hp => by obtain ⟨rfl, rfl⟩ := hp; exact kk)
theorem v_callIp (g : zG F X y cc nL ret rm cn) {y2 : MethodName} {cc2 : ByteArray} {nL2 idx b : Nat} {rm2 : Room} {As rest : List Value} {h2 : zH} {v2 : Option Value} (hM : zMet F y2 cc2 nL2 none rm2 (.ref b :: As) h (zP h2 v2)) (L : zCI y.cls idx y2 cc2 nL2 As.length) (hst : st = As.reverse ++ .ref b :: rest) (hw : (rest.map fun v => v.category).sum ≤ 8) (hd : decode cc pc = .ok (.invokespecial idx, 3)) (hRm : rm2.frames + 1 ≤ rm.frames ∧ 8 + (nL2 + 11) + rm2.locals ≤ rm.locals) (hcs : h.2.1 + rm2.cells ≤ cn.1 + rm.cells ∧ h.2.2 + rm2.slots ≤ cn.2 + rm.slots)
    (kk : zV F X h2 (pc + 3) lv (v2.toList ++ rest)) : zV F X h pc lv st :=
  v_callI g hM L hst hw hd hRm hcs (fun v h' hp => by obtain ⟨rfl, rfl⟩ := hp; exact kk)
/-! System.arraycopy of whole numbers -/
theorem v_cpI (g : zG F X y cc nL ret rm cn) {a0 a1 n0 n1 idx : Nat} {f f1 : Nat → Int32} {sp dp m9 : Int32} (ha0 : h.1 a0 = some (aI n0 f)) (ha1 : h.1 a1 = some (aI n1 f1)) (S D9 M : Nat) (hsp : sp = nI S) (hdp : dp = nI D9) (hm : m9 = nI M) (h4 : S + M ≤ n0) (h5 : D9 + M ≤ n1) (hn0 : n0 ≤ 1000000) (hn1 : n1 ≤ 1000000) (hw : Cond.methodLink y.cls idx arraycopyName ∈ zW) (hRm : 1 ≤ rm.frames ∧ 8 + (nativeFrameWords "java/lang/System" "arraycopy" 5 + 11) ≤ rm.locals) (hw8 : (st.map fun v => v.category).sum ≤ 8) (hd : decode cc pc = .ok (.invokestatic idx, 3)) (w1 : Cond.native arraycopyName ∈ zW) (w2 : Cond.static arraycopyName ∈ zW) (w3 : Cond.initialized "java/lang/System" ∈ zW)
    (kk : zV F X (z_s h a1 (aI n1 (va_cpy f f1 S D9 M))) (pc + 3) lv st) : zV F X h pc lv (.int m9 :: .int dp :: .ref a1 :: .int sp :: .ref a0 :: st) := by
  obtain ⟨l, D, dA, H0⟩ := F
  obtain ⟨p, e, R, s, m, args, below, meth, c, Q, nL'⟩ := X
  obtain ⟨rfl, rfl, hx, hb, hml, hr, hlk, hown, hnm, hts, hK, hc0, hn00⟩ := g
  intro H locs ls k9 n9 hR hL hl
  subst hsp; subst hdp; subst hm
  have eS : (nI S).toNatClampNeg = S := nI_clamp (by omega)
  have eD : (nI D9).toNatClampNeg = D9 := nI_clamp (by omega)
  have eM : (nI M).toNatClampNeg = M := nI_clamp (by omega)
  have hc0' : H[a0]? = some (vp_cell (dA 0) (n0, .inl f)) := hR.P ha0 0 _ rfl
  have hc1' : H[a1]? = some (vp_cell (dA 0) (n1, .inl f1)) := hR.P ha1 0 _ rfl
  obtain ⟨-, k0, hk0, cm0, hkk0⟩ := (hK.1.2 0 _ rfl).1 n0 (fun j => .int (f j))
  obtain ⟨-, k1, hk1, cm1, hkk1⟩ := (hK.1.2 0 _ rfl).1 n1 (fun j => .int (f1 j))
  intro T hT X
  obtain ⟨vm', X', step⟩ := X.arraycopy hx hown (hts _ hw) (hts _ w1) (hts _ w2) (hts _ w3) (src := a0) (dst := a1) (cs := vp_cell (dA 0) (n0, .inl f)) (cd := vp_cell (dA 0) (n1, .inl f1)) (srcPos := nI S) (destPos := nI D9) (n := nI M) (by rw [hT]; exact hc0') (by rw [hT]; exact hc1')
    (fun _ h => by cases h) (fun _ h => by cases h) (fun h => by cases h) (fun h => by cases h) hk0 hk1 hkk0 hkk1 rfl (nI_pos (by omega)) (nI_pos (by omega)) (nI_pos (by omega))
    (by rw [nI_toInt (by omega), nI_toInt (by omega)]; show ¬ _ > ((arrV (dA 0) n0 (fun j => .int (f j))).slots.size : Int); rw [arrV_size]; omega)
    (by rw [nI_toInt (by omega), nI_toInt (by omega)]; show ¬ _ > ((arrV (dA 0) n1 (fun j => .int (f1 j))).slots.size : Int); rw [arrV_size]; omega)
    (fun vm₁ _ i hi => by
      rw [eM] at hi
      have e : (vp_cell (dA 0) (n0, .inl f)).slots.getD ((nI S).toNatClampNeg + i) .null = .int (f ((nI S).toNatClampNeg + i)) := by
        show (arrV (dA 0) n0 (fun j => .int (f j))).slots.getD _ _ = _
        rw [Array.getD_eq_getD_getElem?, arrV_read _ _ (by omega)]
        rfl
      refine ⟨?_, ?_⟩
      · rw [e]; rfl
      · rw [e]; exact trivial)
    (g := F0 m pc ls (.int (nI M) :: .int (nI D9) :: .ref a1 :: .int (nI S) :: .ref a0 :: st)) rfl (by rw [hml]; exact hl.1) (rest := st) rfl (by rw [hb]; exact hd) hRm.1 (by show 2 * 0 + _ + _ ≤ _; omega)
  have e1 : copied (vp_cell (dA 0) (n0, .inl f)) (vp_cell (dA 0) (n1, .inl f1)) (nI S) (nI D9) (nI M) = vp_cell (dA 0) (n1, .inl (va_cpy f f1 S D9 M)) := by
    unfold copied
    rw [eS, eD, eM]
    exact va_copied (fun z => .int z) (dA 0) (dA 0) f f1 h4
  rw [e1] at X' step
  have hl2 : a1 < H.size := (Array.getElem?_eq_some_iff.mp hc1').1
  have hheap : ((T.setVm vm').setCell a1 (vp_cell (dA 0) (n1, .inl (va_cpy f f1 S D9 M)))).heap = H.setIfInBounds a1 (vp_cell (dA 0) (n1, .inl (va_cpy f f1 S D9 M))) := by rw [← hT]; rfl
  have e3 : ∀ q : Nat, q ≠ a1 → (H.setIfInBounds a1 (vp_cell (dA 0) (n1, .inl (va_cpy f f1 S D9 M))))[q]? = H[q]? := fun q hq => by simp [Array.getElem?_setIfInBounds, Ne.symm hq]
  have e4 : (H.setIfInBounds a1 (vp_cell (dA 0) (n1, .inl (va_cpy f f1 S D9 M))))[a1]? = some (vp_cell (dA 0) (n1, .inl (va_cpy f f1 S D9 M))) := by simp [Array.getElem?_setIfInBounds, hl2]
  obtain ⟨t, b1, b2⟩ := kk _ _ ls _ _ (hR.put ha1 hc1' e4 (by simp) e3 (by rw [vp_cell_i, vp_cell_i, arrV_size, arrV_size]) e4) (fun q hq => by
      rcases List.mem_append.mp hq with h | h
      · exact hL q h
      · obtain ⟨z, -, hz⟩ := List.mem_map.mp h
        rw [← hz]
        exact hR.ge ha1) hl _ hheap X'
  exact ⟨t, step t b1, b2⟩
theorem v_cpJ (g : zG F X y cc nL ret rm cn) {a0 a1 n0 n1 idx : Nat} {f f1 : Nat → Int64} {sp dp m9 : Int32} (ha0 : h.1 a0 = some (aJ n0 f)) (ha1 : h.1 a1 = some (aJ n1 f1)) (S D9 M : Nat) (hsp : sp = nI S) (hdp : dp = nI D9) (hm : m9 = nI M) (h4 : S + M ≤ n0) (h5 : D9 + M ≤ n1) (hn0 : n0 ≤ 1000000) (hn1 : n1 ≤ 1000000) (hw : Cond.methodLink y.cls idx arraycopyName ∈ zW) (hRm : 1 ≤ rm.frames ∧ 8 + (nativeFrameWords "java/lang/System" "arraycopy" 5 + 11) ≤ rm.locals) (hw8 : (st.map fun v => v.category).sum ≤ 8) (hd : decode cc pc = .ok (.invokestatic idx, 3)) (w1 : Cond.native arraycopyName ∈ zW) (w2 : Cond.static arraycopyName ∈ zW) (w3 : Cond.initialized "java/lang/System" ∈ zW)
    (kk : zV F X (z_s h a1 (aJ n1 (va_cpy f f1 S D9 M))) (pc + 3) lv st) : zV F X h pc lv (.int m9 :: .int dp :: .ref a1 :: .int sp :: .ref a0 :: st) := by
  obtain ⟨l, D, dA, H0⟩ := F
  obtain ⟨p, e, R, s, m, args, below, meth, c, Q, nL'⟩ := X
  obtain ⟨rfl, rfl, hx, hb, hml, hr, hlk, hown, hnm, hts, hK, hc0, hn00⟩ := g
  intro H locs ls k9 n9 hR hL hl
  subst hsp; subst hdp; subst hm
  have eS : (nI S).toNatClampNeg = S := nI_clamp (by omega)
  have eD : (nI D9).toNatClampNeg = D9 := nI_clamp (by omega)
  have eM : (nI M).toNatClampNeg = M := nI_clamp (by omega)
  have hc0' : H[a0]? = some (vp_cell (dA 1) (n0, .inr (.inl f))) := hR.P ha0 0 _ rfl
  have hc1' : H[a1]? = some (vp_cell (dA 1) (n1, .inr (.inl f1))) := hR.P ha1 0 _ rfl
  obtain ⟨-, k0, hk0, cm0, hkk0⟩ := (hK.1.2 1 _ rfl).1 n0 (fun j => .long (f j))
  obtain ⟨-, k1, hk1, cm1, hkk1⟩ := (hK.1.2 1 _ rfl).1 n1 (fun j => .long (f1 j))
  intro T hT X
  obtain ⟨vm', X', step⟩ := X.arraycopy hx hown (hts _ hw) (hts _ w1) (hts _ w2) (hts _ w3) (src := a0) (dst := a1) (cs := vp_cell (dA 1) (n0, .inr (.inl f))) (cd := vp_cell (dA 1) (n1, .inr (.inl f1))) (srcPos := nI S) (destPos := nI D9) (n := nI M) (by rw [hT]; exact hc0') (by rw [hT]; exact hc1')
    (fun _ h => by cases h) (fun _ h => by cases h) (fun h => by cases h) (fun h => by cases h) hk0 hk1 hkk0 hkk1 rfl (nI_pos (by omega)) (nI_pos (by omega)) (nI_pos (by omega))
    (by rw [nI_toInt (by omega), nI_toInt (by omega)]; show ¬ _ > ((arrV (dA 1) n0 (fun j => .long (f j))).slots.size : Int); rw [arrV_size]; omega)
    (by rw [nI_toInt (by omega), nI_toInt (by omega)]; show ¬ _ > ((arrV (dA 1) n1 (fun j => .long (f1 j))).slots.size : Int); rw [arrV_size]; omega)
    (fun vm₁ _ i hi => by
      rw [eM] at hi
      have e : (vp_cell (dA 1) (n0, .inr (.inl f))).slots.getD ((nI S).toNatClampNeg + i) .null = .long (f ((nI S).toNatClampNeg + i)) := by
        show (arrV (dA 1) n0 (fun j => .long (f j))).slots.getD _ _ = _
        rw [Array.getD_eq_getD_getElem?, arrV_read _ _ (by omega)]
        rfl
      refine ⟨?_, ?_⟩
      · rw [e]; rfl
      · rw [e]; exact trivial)
    (g := F0 m pc ls (.int (nI M) :: .int (nI D9) :: .ref a1 :: .int (nI S) :: .ref a0 :: st)) rfl (by rw [hml]; exact hl.1) (rest := st) rfl (by rw [hb]; exact hd) hRm.1 (by show 2 * 0 + _ + _ ≤ _; omega)
  have e1 : copied (vp_cell (dA 1) (n0, .inr (.inl f))) (vp_cell (dA 1) (n1, .inr (.inl f1))) (nI S) (nI D9) (nI M) = vp_cell (dA 1) (n1, .inr (.inl (va_cpy f f1 S D9 M))) := by
    unfold copied
    rw [eS, eD, eM]
    exact va_copied (fun z => .long z) (dA 1) (dA 1) f f1 h4
  rw [e1] at X' step
  have hl2 : a1 < H.size := (Array.getElem?_eq_some_iff.mp hc1').1
  have hheap : ((T.setVm vm').setCell a1 (vp_cell (dA 1) (n1, .inr (.inl (va_cpy f f1 S D9 M))))).heap = H.setIfInBounds a1 (vp_cell (dA 1) (n1, .inr (.inl (va_cpy f f1 S D9 M)))) := by rw [← hT]; rfl
  have e3 : ∀ q : Nat, q ≠ a1 → (H.setIfInBounds a1 (vp_cell (dA 1) (n1, .inr (.inl (va_cpy f f1 S D9 M)))))[q]? = H[q]? := fun q hq => by simp [Array.getElem?_setIfInBounds, Ne.symm hq]
  have e4 : (H.setIfInBounds a1 (vp_cell (dA 1) (n1, .inr (.inl (va_cpy f f1 S D9 M)))))[a1]? = some (vp_cell (dA 1) (n1, .inr (.inl (va_cpy f f1 S D9 M)))) := by simp [Array.getElem?_setIfInBounds, hl2]
  obtain ⟨t, b1, b2⟩ := kk _ _ ls _ _ (hR.put ha1 hc1' e4 (by simp) e3 (by rw [vp_cell_l, vp_cell_l, arrV_size, arrV_size]) e4) (fun q hq => by
      rcases List.mem_append.mp hq with h | h
      · exact hL q h
      · obtain ⟨z, -, hz⟩ := List.mem_map.mp h
        rw [← hz]
        exact hR.ge ha1) hl _ hheap X'
  exact ⟨t, step t b1, b2⟩
end VE
