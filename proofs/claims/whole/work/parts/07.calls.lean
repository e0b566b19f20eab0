/-! rows of the judgement: calls -/
def zCL (own : String) (idx : Nat) (y : MethodName) (cc : ByteArray) (nL : Nat) (ret : Option FieldType) (n : Nat) : Prop := Cond.methodLink own idx y ∈ zW ∧ Cond.initialized y.cls ∈ zW ∧ Cond.code y cc nL ret ∈ zW ∧ (y.cls ≠ "java/lang/invoke/MethodHandle" ∧ y.cls ≠ "java/lang/invoke/VarHandle" ∧ (parseMethodDescriptor y.desc).map (fun d => d.parameters.length) = some n)
def zCV (own : String) (idx : Nat) (y : MethodName) (cc : ByteArray) (nL : Nat) (ret : Option FieldType) (n : Nat) : Prop := zCL own idx y cc nL ret n ∧ Cond.instanceMethod y ∈ zW ∧ Cond.selects y.cls y y ∈ zW
def zCS (own : String) (idx : Nat) (y : MethodName) (cc : ByteArray) (nL : Nat) (ret : Option FieldType) (n : Nat) : Prop := zCL own idx y cc nL ret n ∧ Cond.static y ∈ zW
def zCI (own : String) (idx : Nat) (y : MethodName) (cc : ByteArray) (nL : Nat) (n : Nat) : Prop := zCL own idx y cc nL none n ∧ y.name = "<init>" ∧ Cond.instanceMethod y ∈ zW
theorem zGood {ws : List Cond} (h : ∀ w ∈ ws, w ∈ zW) : GoodIn zW ws := fun w hw => ⟨h w hw, good_of_word (zW_good w (h w hw))⟩
theorem zCallB {R rm : Room} {s : State} {args : Array Value} {own : String} {idx : Nat} {y : MethodName} {cc : ByteArray} {nL : Nat} {ret : Option FieldType} {n : Nat} (hts : ∀ w ∈ zW, w.before args s = true) (L : zCL own idx y cc nL ret n) (hR : rm.frames + 1 ≤ R.frames ∧ 8 + (nL + 11) + rm.locals ≤ R.locals) : CallB R s args own idx y cc nL ret (Cond.code y cc nL ret :: zW) rm rm.cells rm.slots n :=
  callB_of n hts (zGood (fun w hw => (List.mem_cons.mp hw).elim (fun e => by rw [e]; exact L.2.2.1) id)) rfl rfl rfl (hts _ L.2.1) (hts _ L.1) L.2.2.2 hR
theorem zPc_blind {D : va_G} {dA : Nat → ClassId} {H0 : Heap} {av : List Value} {h : zH} : FrameBlind (zPc D dA H0 av h) := fun a U g mk q => by
  obtain ⟨q0, q1, q2⟩ := q
  exact ⟨q0, q1, zK.moved (u := U) (U := U.calling g mk a) (Vm.Alike.refl U.vm) q2⟩
section VC
variable {F : zF} {X : zX} {y : MethodName} {cc : ByteArray} {nL : Nat} {ret : Option FieldType} {rm : Room} {cn : Nat × Nat} {h : zH} {pc : Nat} {lv lv' : zLv} {st st' : List Value}
theorem zRun_go {p : Program} {l : Launch} {e : Env} {R : Room} {s : State} {m : MethodId} {args : Array Value} {below : List Frame} {meth : Method} {c : Code} {H : Heap} {locs : List Loc} {k n mc ms : Nat} {Q : State → Prop} {ls : Array Slot} {D : va_G} {dA : Nat → ClassId} {H0 : Heap} {post : Option Value → zH → Prop} {av : Array Value} {rest st0 : List Value}
    (hr : va_Run p l e R s m args below meth c H locs k n mc ms (F0 m pc ls st0) rest (zQc D dA H0 post av) (fun q => H0.size ≤ q)) (hL : ∀ q ∈ locs, H0.size ≤ q.base)
    (kk : ∀ (v : Option Value) (h' : zH) (H1 : Heap) (locs1 : List Loc), post v h' → zR D dA H0 h' H1 → (∀ q ∈ locs1, H0.size ≤ q.base) → W p l e R s m args below meth c H1 locs1 (k + mc) (n + ms) Q (F0 m (pc + 3) ls (v.toList ++ rest))) : W p l e R s m args below meth c H locs k n Q (F0 m pc ls st0) := by
  intro T hT X
  obtain ⟨v, st₀, t, T', L, h0, X', hL2, e1, e2, ⟨v2, h', hv, hp, hR'⟩, st⟩ := hr T hT X
  cases hv
  obtain ⟨t2, a1, b1⟩ := kk v h' T'.heap (locs ++ L) hp (by rw [e1]; exact hR') (fun q hq => (List.mem_append.mp hq).elim (hL q) (hL2 q)) T' rfl X'
  exact ⟨t2, st t2 a1, b1⟩
theorem v_callV (g : zG F X y cc nL ret rm cn) {y2 : MethodName} {cc2 : ByteArray} {nL2 idx b ci : Nat} {ret2 : Option FieldType} {rm2 : Room} {As rest fs : List Value} {post : Option Value → zH → Prop} (hM : zMet F y2 cc2 nL2 ret2 rm2 (.ref b :: As) h post) (L : zCV y.cls idx y2 cc2 nL2 ret2 As.length) (hb2 : h.1 b = some (oB ci fs)) (hci : vwCl[ci]?.map (fun q => q.1) = some y2.cls) (hst : st = As.reverse ++ .ref b :: rest) (hw : (rest.map fun v => v.category).sum ≤ 8) (hd : decode cc pc = .ok (.invokevirtual idx, 3)) (hRm : rm2.frames + 1 ≤ rm.frames ∧ 8 + (nL2 + 11) + rm2.locals ≤ rm.locals) (hcs : h.2.1 + rm2.cells ≤ cn.1 + rm.cells ∧ h.2.2 + rm2.slots ≤ cn.2 + rm.slots)
    (kk : ∀ (v : Option Value) (h' : zH), post v h' → zV F X h' (pc + 3) lv (v.toList ++ rest)) : zV F X h pc lv st := by
  obtain ⟨l, D, dA, H0⟩ := F
  obtain ⟨p, e, R, s, m, args, below, meth, c, Q, nL'⟩ := X
  obtain ⟨rfl, rfl, hx, hb, hml, hr, hlk, hown, hnm, hts, hK, hc0, hn0⟩ := g
  intro H locs ls k9 n9 hR hL hl
  subst hst
  have hM : Met l y2 (Cond.code y2 cc2 nL2 ret2 :: zW) rm2 (zPc D dA H0 (.ref b :: As) h) (zQc D dA H0 post) rm2.cells rm2.slots (fun q => H0.size ≤ q) := hM
  refine zW_tight H0.size (by omega) (fun t1 t2 => ?_)
  obtain ⟨r, h1, cell, q1, q2, q3, q4⟩ := (hR.2.2.2 b _ hb2).2
  have hr1 : r.1 = y2.cls := by
    have h1' : vwCl[ci]? = some r := h1
    rw [h1'] at hci
    exact Option.some.inj hci
  have hcls := (hK.1.1 ci r h1).2.1
  rw [hr1] at hcls
  refine zRun_go (va_runV (As := As) (rest := rest) ⟨hx, hb, hml, hown, hts⟩ hM (C := y2.cls) ⟨zCallB hts L.1 hRm, hts _ L.2.1, hts _ L.2.2⟩ ⟨zPc_blind, ⟨cell, q1, by rw [q3]; rfl, by rw [hcls, q2]⟩, fun U hU hW => ⟨rfl, by rw [hU]; exact hR, hK.moved hW.alike⟩⟩ rfl rfl hl.1 rfl (lv_room hw) hd ⟨by have := hR.1; omega, by have := hR.2.1; omega⟩) hL (fun v h' H1 locs1 hp hR1 hL1 => kk v h' hp H1 locs1 ls _ _ hR1 hL1 hl)
theorem v_callS (g : zG F X y cc nL ret rm cn) {y2 : MethodName} {cc2 : ByteArray} {nL2 idx : Nat} {ret2 : Option FieldType} {rm2 : Room} {As rest : List Value} {post : Option Value → zH → Prop} (hM : zMet F y2 cc2 nL2 ret2 rm2 As h post) (L : zCS y.cls idx y2 cc2 nL2 ret2 As.length) (hst : st = As.reverse ++ rest) (hw : (rest.map fun v => v.category).sum ≤ 8) (hd : decode cc pc = .ok (.invokestatic idx, 3)) (hRm : rm2.frames + 1 ≤ rm.frames ∧ 8 + (nL2 + 11) + rm2.locals ≤ rm.locals) (hcs : h.2.1 + rm2.cells ≤ cn.1 + rm.cells ∧ h.2.2 + rm2.slots ≤ cn.2 + rm.slots)
    (kk : ∀ (v : Option Value) (h' : zH), post v h' → zV F X h' (pc + 3) lv (v.toList ++ rest)) : zV F X h pc lv st := by
  obtain ⟨l, D, dA, H0⟩ := F
  obtain ⟨p, e, R, s, m, args, below, meth, c, Q, nL'⟩ := X
  obtain ⟨rfl, rfl, hx, hb, hml, hr, hlk, hown, hnm, hts, hK, hc0, hn0⟩ := g
  intro H locs ls k9 n9 hR hL hl
  subst hst
  have hM : Met l y2 (Cond.code y2 cc2 nL2 ret2 :: zW) rm2 (zPc D dA H0 As h) (zQc D dA H0 post) rm2.cells rm2.slots (fun q => H0.size ≤ q) := hM
  refine zW_tight H0.size (by omega) (fun t1 t2 => ?_)
  refine zRun_go (va_runS (As := As) (rest := rest) ⟨hx, hb, hml, hown, hts⟩ hM ⟨zCallB hts L.1 hRm, hts _ L.2⟩ ⟨zPc_blind, fun U hU hW => ⟨rfl, by rw [hU]; exact hR, hK.moved hW.alike⟩⟩ rfl rfl hl.1 rfl (lv_room hw) hd ⟨by have := hR.1; omega, by have := hR.2.1; omega⟩) hL (fun v h' H1 locs1 hp hR1 hL1 => kk v h' hp H1 locs1 ls _ _ hR1 hL1 hl)
theorem v_callI (g : zG F X y cc nL ret rm cn) {y2 : MethodName} {cc2 : ByteArray} {nL2 idx b : Nat} {rm2 : Room} {As rest : List Value} {post : Option Value → zH → Prop} (hM : zMet F y2 cc2 nL2 none rm2 (.ref b :: As) h post) (L : zCI y.cls idx y2 cc2 nL2 As.length) (hst : st = As.reverse ++ .ref b :: rest) (hw : (rest.map fun v => v.category).sum ≤ 8) (hd : decode cc pc = .ok (.invokespecial idx, 3)) (hRm : rm2.frames + 1 ≤ rm.frames ∧ 8 + (nL2 + 11) + rm2.locals ≤ rm.locals) (hcs : h.2.1 + rm2.cells ≤ cn.1 + rm.cells ∧ h.2.2 + rm2.slots ≤ cn.2 + rm.slots)
    (kk : ∀ (v : Option Value) (h' : zH), post v h' → zV F X h' (pc + 3) lv (v.toList ++ rest)) : zV F X h pc lv st := by
  obtain ⟨l, D, dA, H0⟩ := F
  obtain ⟨p, e, R, s, m, args, below, meth, c, Q, nL'⟩ := X
  obtain ⟨rfl, rfl, hx, hb, hml, hr, hlk, hown, hnm, hts, hK, hc0, hn0⟩ := g
  intro H locs ls k9 n9 hR hL hl
  subst hst
  have hM : Met l y2 (Cond.code y2 cc2 nL2 none :: zW) rm2 (zPc D dA H0 (.ref b :: As) h) (zQc D dA H0 post) rm2.cells rm2.slots (fun q => H0.size ≤ q) := hM
  refine zW_tight H0.size (by omega) (fun t1 t2 => ?_)
  refine zRun_go (va_runI (As := As) (rest := rest) ⟨hx, hb, hml, hown, hts⟩ hM ⟨zCallB hts L.1 hRm, L.2.1, hts _ L.2.2⟩ ⟨zPc_blind, fun U hU hW => ⟨rfl, by rw [hU]; exact hR, hK.moved hW.alike⟩⟩ rfl rfl hl.1 rfl (lv_room hw) hd ⟨by have := hR.1; omega, by have := hR.2.1; omega⟩) hL (fun v h' H1 locs1 hp hR1 hL1 => kk v h' hp H1 locs1 ls _ _ hR1 hL1 hl)
/-- Object's own constructor -/
theorem v_obj (g : zG F X y cc nL ret rm cn) {idx a : Nat} (hw1 : Cond.methodLink y.cls idx Lib.objectInit ∈ zW) (hd : decode cc pc = .ok (.invokespecial idx, 3)) (hRm : 1 ≤ rm.frames ∧ 30 ≤ rm.locals) (hw : (st.map fun v => v.category).sum ≤ 8) (kk : zV F X h (pc + 3) lv st) (hw2 : Cond.instanceMethod Lib.objectInit ∈ zW) (hw3 : Cond.code Lib.objectInit ⟨#[0xb1]⟩ 1 none ∈ zW) : zV F X h pc lv (.ref a :: st) := by
  obtain ⟨l, D, dA, H0⟩ := F
  obtain ⟨p, e, R, s, m, args, below, meth, c, Q, nL'⟩ := X
  obtain ⟨rfl, rfl, hx, hb, hml, hr, hlk, hown, hnm, hts, hK, hc0, hn0⟩ := g
  intro H locs ls k9 n9 hR hL hl
  refine W.objInit hx hb hown (hts _ hw1) (hts _ hw2) (hts _ hw3) rfl (by rw [hml]; exact hl.1) rfl hd hRm.1 (by have := lv_room (m := m) (pc := pc) (ls := ls) (rest := st) hw; have h2 : 2 * (F0 m pc ls (.ref a :: st)).monitorRoom = 2 * (F0 m pc ls st).monitorRoom := rfl; omega) ?_
  exact kk H locs ls k9 n9 hR hL hl
/-- the constant table WITH_MATCH -/
theorem v_gets (g : zG F X y cc nL ret rm cn) {idx : Nat} (hw : Cond.fieldLink y.cls idx RX3 "WITH_MATCH" "[J" ∈ zW) (hd : decode cc pc = .ok (.getstatic idx, 3))
    (kk : ∀ t : Nat, (∀ (h' : zH) (pc' : Nat) (lv' : zLv) (st' : List Value) (i : Int32) (j : Nat), i = nI j → j < 6 → decode cc pc' = .ok (.laload, 1) → zV F X h' (pc' + 1) lv' (zWM j :: st') → zV F X h' pc' lv' (.int i :: .ref t :: st')) → zV F X h (pc + 3) lv (.ref t :: st)) : zV F X h pc lv st := by
  obtain ⟨l, D, dA, H0⟩ := F
  obtain ⟨p, e, R, s, m, args, below, meth, c, Q, nL'⟩ := X
  obtain ⟨rfl, rfl, hx, hb, hml, hr, hlk, hown, hnm, hts, hK, hc0, hn0⟩ := g
  intro H locs ls k9 n9 hR hL hl
  obtain ⟨-, -, t, hZ, hT⟩ := hK
  obtain ⟨cf, kf, fi, f, a, cell, h1, h2, h3, h4, h5, h6, h7, h8⟩ := hZ
  refine W.gets hx hb hown (hts _ hw) h1 h2 h3 h4 (by rw [hR.2.2.1 a (Array.getElem?_eq_some_iff.mp h5).1]; exact h5) (fun e => by rw [e] at h6; cases h6) h7 rfl hd ?_
  refine kk t (fun h' pc' lv' st' i j hi hj hd' k2 => ?_) H locs ls k9 n9 hR hL hl
  intro H' locs' ls' k' n' hR' hL' hl'
  obtain ⟨cell2, g1, g2, g3, g4, g5, g6, g7⟩ := hT
  obtain ⟨i1, i2⟩ := z_in hi hj (by omega)
  exact W.lald (v := zWM j) hx hb (by rw [hR'.2.2.1 t (Array.getElem?_eq_some_iff.mp g1).1]; exact g1) g2 g3 (by rw [i2]; exact fun q => q.elim (fun q => i1 (Or.inl q)) (fun q => by omega)) (by rw [i2]; exact g6 j hj) rfl rfl hd' (k2 H' locs' ls' k' n' hR' hL' hl')
end VC
