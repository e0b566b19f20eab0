/-! a method with a catch: its contract, a call of it, the call inside it that throws -/
theorem mx_ofW {l : Launch} {y : MethodName} {ws ws' : List Cond} {rm : Room} {Pc : Array Value → State → Prop} {Qc : Array Value → State → Outcome → State → Prop} {mc ms : Nat} {free : Addr → Prop} {cc : ByteArray} {maxL : Nat} {ret : Option FieldType} {hh : List (Nat × Nat × Nat × Nat)}
    (hy : plainName y.cls = true) (hw : ws = Cond.codeWith y cc maxL ret hh :: ws')
    (body : ∀ p e s m args below meth c s₁, BodyLoose p l y (headSpec ws rm) cc maxL ret e s m args below meth c s₁ → c.maxLocals = maxL → c.exceptionTable.toList = tableOf hh → Pc args s →
      W p l e (headSpec ws rm).room s m args below meth c s.heap [] 0 0 (MQ below Qc args s mc ms free) (entryFrame m args maxL)) : Met l y ws rm Pc Qc mc ms free := by
  refine MetFree.of_bodyS (code := cc) (maxLocals := maxL) (ret := ret) hy ?_ ?_
  · intro args s m h hn
    obtain ⟨m9, meth, c, h0, h1, h2, h3, h4, -, h5, h6, -⟩ := Cond.codeWith_spec (atoms_spec (ws := ws) h _ (by rw [hw]; exact List.mem_cons_self))
    cases Option.some.inj (h0.symm.trans hn)
    exact ⟨meth, c, h1, h2, h3, h4, h5, h6⟩
  · intro p e s m args below meth c s₁ B hml hP _
    have hh0 : s₁.heap = s.heap := by rw [B.state]; rfl
    obtain ⟨t, a1, o, b1, b2, b3⟩ := body p e s m args below meth c s₁ B hml (vx_table (x := y) B (atoms_spec (ws := ws) B.pre _ (by rw [hw]; exact List.mem_cons_self))) hP s₁ hh0 (Stand.of_body B)
    exact ⟨t, o, a1, b1, b2, ⟨b3.1, b3.2⟩⟩
abbrev hhT : List (Nat × Nat × Nat × Nat) := [(0, 10, 13, 13)]
def zMetW (F : zF) (y : MethodName) (cc : ByteArray) (nL : Nat) (ret : Option FieldType) (hh : List (Nat × Nat × Nat × Nat)) (rm : Room) (av : List Value) (h : zH) (post : Option Value → zH → Prop) : Prop :=
  match F with
  | (l, D, dA, H0) => Met l y (Cond.codeWith y cc nL ret hh :: zW) rm (zPcX D dA H0 av h) (zQc D dA H0 post) rm.cells rm.slots (fun q => H0.size ≤ q)
def zGW (F : zF) (X : zX) (hh : List (Nat × Nat × Nat × Nat)) : Prop :=
  match F, X with
  | (l, D, dA, H0), (p, e, R, s, m, args, below, meth, c, Q, nL') => c.exceptionTable.toList = tableOf hh ∧ zKX H0 s
theorem zMetW_of {F : zF} {y : MethodName} {cc : ByteArray} {nL : Nat} {ret : Option FieldType} {hh : List (Nat × Nat × Nat × Nat)} {rm : Room} {av : List Value} {lv : zLv} {h : zH} {post : Option Value → zH → Prop} (hy : plainName y.cls = true) (hn : (lg_sl av).length ≤ nL) (hlv : lv_args 0 av = lv)
    (body : ∀ X : zX, zG F X y cc nL ret rm h.2 → zGW F X hh → zZ F X post rm.cells rm.slots → zV F X h 0 lv []) : zMetW F y cc nL ret hh rm av h post := by
  obtain ⟨l, D, dA, H0⟩ := F
  refine mx_ofW (cc := cc) (maxL := nL) (ret := ret) (hh := hh) hy rfl ?_
  intro p e s m args below meth c s₁ B hml ht hv
  obtain ⟨rfl, hR, hK, hKX⟩ := hv
  have hts := atoms_spec (ws := Cond.codeWith y cc nL ret hh :: zW) B.pre
  have hl := lv_entry av (n := nL) hn
  rw [lg_entry_eq]
  rw [hlv] at hl
  exact body (p, e, rm, s, m, av.toArray, below, meth, c, _, nL) ⟨rfl, rfl, B.exec, B.bytes, hml, B.returns, B.notSynchronized, findClass_of_methodNamed B.named, (name_of_methodNamed B.named B.method).1, fun w hw => hts w (List.mem_cons_of_mem _ hw), hK, hR.1, hR.2.1⟩ ⟨ht, hKX⟩ rfl s.heap [] _ 0 0 hR (fun q hq => by cases hq) hl
section VXC
variable {F : zF} {X : zX} {y : MethodName} {cc : ByteArray} {nL : Nat} {ret : Option FieldType} {rm : Room} {cn : Nat × Nat} {h : zH} {pc : Nat} {lv lv' : zLv} {st st' : List Value}
/-- a call of a method that throws, inside the one row of the table -/
theorem v_callX (g : zG F X y cc nL ret rm cn) {hh : Nat × Nat × Nat × Nat} (gw : zGW F X [hh]) (hcov : hh.1 ≤ pc ∧ pc < hh.2.1) (hct : hh.2.2.2 ≠ 0) (hlk9 : Cond.classLink y.cls hh.2.2.2 nseN ∈ zW)
    {y2 : MethodName} {cc2 : ByteArray} {nL2 idx b ci : Nat} {ret2 : Option FieldType} {rm2 : Room} {As rest fs : List Value} (hM : zMetX F y2 cc2 nL2 ret2 rm2 (.ref b :: As) h (fun _ _ => False)) (L : zCV y.cls idx y2 cc2 nL2 ret2 As.length) (hb2 : h.1 b = some (oB ci fs)) (hci : vwCl[ci]?.map (fun q => q.1) = some y2.cls) (hst : st = As.reverse ++ .ref b :: rest) (hw : (rest.map fun v => v.category).sum ≤ 8) (hd : decode cc pc = .ok (.invokevirtual idx, 3)) (hRm : rm2.frames + 1 ≤ rm.frames ∧ 8 + (nL2 + 11) + rm2.locals ≤ rm.locals) (hcs : h.2.1 + rm2.cells ≤ cn.1 + rm.cells ∧ h.2.2 + rm2.slots ≤ cn.2 + rm.slots)
    (kk : ∀ (a : Nat) (h' : zH), h'.1 = h.1 → (h.2.1 ≤ h'.2.1 ∧ h'.2.1 ≤ h.2.1 + rm2.cells) → (h.2.2 ≤ h'.2.2 ∧ h'.2.2 ≤ h.2.2 + rm2.slots) → zV F X h' hh.2.2.1 lv [.ref a]) : zV F X h pc lv st := by
  obtain ⟨l, D, dA, H0⟩ := F
  obtain ⟨p, e, R, s, m, args, below, meth, c, Q, nL'⟩ := X
  obtain ⟨rfl, rfl, hx, hb, hml, hr, hlk, hown, hnm, hts, hK, hc0, hn0⟩ := g
  obtain ⟨htb, hKX⟩ := gw
  intro H locs ls k9 n9 hR hL hl
  subst hst
  have hM : vx_Met l y2 (Cond.code y2 cc2 nL2 ret2 :: zW) rm2 (zPcX D dA H0 (.ref b :: As) h) (zQc D dA H0 (fun _ _ => False)) (zXC D dA H0 h) rm2.cells rm2.slots (fun q => H0.size ≤ q) := hM
  refine zW_tight H0.size (by omega) (fun t1 t2 => ?_)
  obtain ⟨r, h1, cell, q1, q2, q3, q4⟩ := (hR.2.2.2 b _ hb2).2
  have hr1 : r.1 = y2.cls := by
    have h1' : vwCl[ci]? = some r := h1
    rw [h1'] at hci
    exact Option.some.inj hci
  have hcls := (hK.1.1 ci r h1).2.1
  rw [hr1] at hcls
  have hrun := vx_runV (p := p) (e := e) (below := below) (meth := meth) (locs := locs) (cells := H.size - s.heap.size) (slots := z_sum H0.size H - z_sum H0.size s.heap) (g := F0 m pc ls (As.reverse ++ .ref b :: rest)) (As := As) (rest := rest) ⟨hx, hb, hml, hown, hts⟩ hM (C := y2.cls) ⟨zCallB hts L.1 hRm, hts _ L.2.1, hts _ L.2.2⟩ ⟨zPcX_blind, ⟨cell, q1, by rw [q3]; rfl, by rw [hcls, q2]⟩, fun U hU hW => ⟨rfl, by rw [hU]; exact hR, hK.moved hW.alike, hKX.warm hW⟩⟩ rfl rfl hl.1 rfl (lv_room hw) hd ⟨by have := hR.1; omega, by have := hR.2.1; omega⟩
  intro T hT X9
  rcases hrun T hT X9 with ⟨v, st₀, t, T', L9, h0, X', hL2, e1, e2, ⟨v2, h', hv, hp, hR'⟩, st9⟩ | ⟨q, st₀, t, T', L9, E, ce, h0, X', hL2, e1, e2, ⟨rfl, hRx⟩, hce, hcv, hcl, st9⟩
  · exact hp.elim
  · rw [← e1] at hRx hce
    have hz := hRx.zR
    have hL3 : ∀ q ∈ locs ++ L9, H0.size ≤ q.base := fun q hq => (List.mem_append.mp hq).elim (hL q) (hL2 q)
    obtain ⟨a1, a2, a3, a4, a5, a6⟩ := X'.same
    have a2' : s.heap.size ≤ T'.heap.size := a2
    have a3' : T'.heap.size ≤ s.heap.size + (H.size - s.heap.size + rm2.cells) := a3
    have a5' : ((T'.heap.toList.drop s.heap.size).map (fun c : Cell => c.slots.size)).sum ≤ z_sum H0.size H - z_sum H0.size s.heap + rm2.slots := a5
    have b6 : ∀ q : Nat, q < s.heap.size → (T'.heap[q]?).map (fun c : Cell => c.slots.size) = (s.heap[q]?).map (fun c : Cell => c.slots.size) := by
      intro q hq
      obtain ⟨c', e1, e2, e3, e4⟩ := a6 q _ (Array.getElem?_eq_getElem hq)
      have e5 : T'.heap[q]? = some c' := e1
      rw [e5, Array.getElem?_eq_getElem hq]
      simp [e3]
    have b7 := z_sum_split (n := H0.size) (by omega) a2' b6
    have b8 : z_sum s.heap.size T'.heap = ((T'.heap.toList.drop s.heap.size).map (fun c : Cell => c.slots.size)).sum := by
      unfold z_sum z_ms
      rw [List.map_drop]
    have hw9 : covers (⟨hh.1, hh.2.1, hh.2.2.1, hh.2.2.2⟩ : ExceptionTableEntry) pc = true := by
      simp [covers, hcov.1, hcov.2]
    have hcatch := ex_catch (p := p) (l := l) (e := e) (R := R) (below := below) (meth := meth) (Q := Q) (locs := locs ++ L9) (cells := H.size - s.heap.size + rm2.cells) (slots := z_sum H0.size H - z_sum H0.size s.heap + rm2.slots) (H := T'.heap) (q := q) (ce := ce) (ls := ls) (rest := rest) (pc := pc) hown (⟨hh.1, hh.2.1, hh.2.2.1, hh.2.2.2⟩ : ExceptionTableEntry) htb hw9 hct (hts _ hlk9) (hKX.2.1 (.castable nseN nseN) (by simp [nxW]) args) hce hcv hcl
      (kk q (h.1, T'.heap.size - H0.size, z_sum H0.size T'.heap) rfl ⟨by have := hRx.1; show h.2.1 ≤ T'.heap.size - H0.size; omega, by have := hR.1; show T'.heap.size - H0.size ≤ _; omega⟩ ⟨hRx.2.1, by have := hR.2.1; show z_sum H0.size T'.heap ≤ _; omega⟩ T'.heap (locs ++ L9) ls _ _ hz hL3 hl)
    obtain ⟨t3, s1, s2⟩ := hcatch T' rfl X'
    exact ⟨t3, st9.trans s1, s2⟩
/-- a static call of a method with a catch -/
theorem v_callSW (g : zG F X y cc nL ret rm cn) (hkx : match F, X with | (_, _, _, H0), (_, _, _, s, _) => zKX H0 s) {y2 : MethodName} {cc2 : ByteArray} {nL2 idx : Nat} {ret2 : Option FieldType} {hh : List (Nat × Nat × Nat × Nat)} {rm2 : Room} {As rest : List Value} {post : Option Value → zH → Prop} (hM : zMetW F y2 cc2 nL2 ret2 hh rm2 As h post)
    (w1 : Cond.methodLink y.cls idx y2 ∈ zW) (w2 : Cond.initialized y2.cls ∈ zW) (w3 : Cond.codeWith y2 cc2 nL2 ret2 hh ∈ zW) (w4 : Cond.static y2 ∈ zW) (hd2 : y2.cls ≠ "java/lang/invoke/MethodHandle" ∧ y2.cls ≠ "java/lang/invoke/VarHandle" ∧ (parseMethodDescriptor y2.desc).map (fun d => d.parameters.length) = some As.length)
    (hst : st = As.reverse ++ rest) (hw : (rest.map fun v => v.category).sum ≤ 8) (hd : decode cc pc = .ok (.invokestatic idx, 3)) (hRm : rm2.frames + 1 ≤ rm.frames ∧ 8 + (nL2 + 11) + rm2.locals ≤ rm.locals) (hcs : h.2.1 + rm2.cells ≤ cn.1 + rm.cells ∧ h.2.2 + rm2.slots ≤ cn.2 + rm.slots)
    (kk : ∀ (v : Option Value) (h' : zH), post v h' → zV F X h' (pc + 3) lv (v.toList ++ rest)) : zV F X h pc lv st := by
  obtain ⟨l, D, dA, H0⟩ := F
  obtain ⟨p, e, R, s, m, args, below, meth, c, Q, nL'⟩ := X
  obtain ⟨rfl, rfl, hx, hb, hml, hr, hlk, hown, hnm, hts, hK, hc0, hn0⟩ := g
  intro H locs ls k9 n9 hR hL hl
  subst hst
  have hkx : zKX H0 s := hkx
  have hM : Met l y2 (Cond.codeWith y2 cc2 nL2 ret2 hh :: zW) rm2 (zPcX D dA H0 As h) (zQc D dA H0 post) rm2.cells rm2.slots (fun q => H0.size ≤ q) := hM
  refine zW_tight H0.size (by omega) (fun t1 t2 => ?_)
  have cw := vx_cwSW (R := R) (Ts := zW) (own := y.cls) (index := idx) (maxL := nL2) (bytes := cc2) (ret := ret2) (hh := hh) (ws := Cond.codeWith y2 cc2 nL2 ret2 hh :: zW) (ws' := zW) (rm := rm2) (mc := rm2.cells) (ms := rm2.slots) (y := y2) As.length hts (zGood (fun w hw => by
    rcases List.mem_append.mp (show w ∈ _ ++ _ from hw) with h | h
    · simp only [List.mem_cons, List.not_mem_nil, or_false] at h
      rcases h with rfl | rfl | rfl
      all_goals assumption
    · exact (List.mem_cons.mp h).elim (fun e => by rw [e]; exact w3) id)) rfl rfl rfl hd2 hRm
  refine zRun_go (vx_runSW (As := As) (rest := rest) ⟨hx, hb, hml, hown, hts⟩ hM cw ⟨zPcX_blind, fun U hU hW => ⟨rfl, by rw [hU]; exact hR, hK.moved hW.alike, hkx.warm hW⟩⟩ rfl rfl hl.1 rfl (lv_room hw) hd ⟨by have := hR.1; omega, by have := hR.2.1; omega⟩) hL (fun v h' H1 locs1 hp hR1 hL1 => kk v h' hp H1 locs1 ls _ _ hR1 hL1 hl)
end VXC
