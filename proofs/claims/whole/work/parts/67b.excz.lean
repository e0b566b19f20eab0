/-! a method that answers or throws NoSuchElementException, over the pure heap -/
def zKX (H0 : Heap) (U : State) : Prop := (vx_Zq Bundle.tN "UNASSIGNED_STACK" Bundle.steD (fun q => H0.size ≤ q) U H0 ∧ vx_Zq Bundle.tN "SUPPRESSED_SENTINEL" Bundle.listD (fun q => H0.size ≤ q) U H0) ∧ (∀ w ∈ nxW, ∀ a : Array Value, w.before a U = true) ∧ (∃ a, vk_R RX7 117 "no such coupon" a U) ∧ ∃ a, vk_R RX7 147 "nothing such is told of a coupon" a U
theorem nxW_tabs : ∀ w ∈ nxW, w.tabsOnly = true ∧ vx_ot w = true := by decide +kernel
theorem zKX.warm {H0 : Heap} {s U : State} (hW : s.WarmedH U.vm) (h : zKX H0 s) : zKX H0 U := by
  obtain ⟨⟨h1, h2⟩, h5, ⟨a, h3⟩, b, h4⟩ := h
  exact ⟨⟨h1.moved hW.alike, h2.moved hW.alike⟩, fun w hw a => Cond.tabsOnly_warm (T := U) hW w (nxW_tabs w hw).1 (h5 w hw #[]), ⟨a, vk_R.warm hW h3⟩, b, vk_R.warm hW h4⟩
theorem zKX.same {H0 : Heap} {s U : State} (hv : U.vm = s.vm) (h : zKX H0 s) : zKX H0 U := h.warm (by rw [hv]; exact State.WarmedH.refl s)
def zRx (D : va_G) (dA : Nat → ClassId) (H0 : Heap) (h : zH) (H : Heap) : Prop :=
  H0.size + h.2.1 ≤ H.size ∧ h.2.2 ≤ z_sum H0.size H ∧ (∀ q : Nat, q < H0.size → H[q]? = H0[q]?) ∧ ∀ (a : Nat) (x : zE), h.1 a = some x → H0.size ≤ a ∧ va_at D vwCl (a, z_e dA x) H
theorem zR.ext {D : va_G} {dA : Nat → ClassId} {H0 : Heap} {h : zH} {H H1 : Heap} (r : zR D dA H0 h H) (hs : H.size ≤ H1.size) (ho : ∀ q : Nat, q < H.size → H1[q]? = H[q]?) : zRx D dA H0 h H1 := by
  obtain ⟨r1, r2, r3, r4⟩ := r
  refine ⟨by omega, ?_, fun q hq => (ho q (by omega)).trans (r3 q hq), fun a x hx => ⟨(r4 a x hx).1, (r4 a x hx).2.kept (ho a (r4 a x hx).2.lt)⟩⟩
  rw [z_sum_split (n := H0.size) (by omega) hs (fun q hq => by rw [ho q hq])]
  omega
theorem zRx.zR {D : va_G} {dA : Nat → ClassId} {H0 : Heap} {h : zH} {H : Heap} (r : zRx D dA H0 h H) : zR D dA H0 (h.1, H.size - H0.size, z_sum H0.size H) H := by
  obtain ⟨r1, r2, r3, r4⟩ := r
  exact ⟨by show H.size = H0.size + (H.size - H0.size); omega, rfl, r3, r4⟩
def zXC (D : va_G) (dA : Nat → ClassId) (H0 : Heap) (h : zH) : String → State → State → Prop := fun E _ t => E = nseN ∧ zRx D dA H0 h t.heap
def zPcX (D : va_G) (dA : Nat → ClassId) (H0 : Heap) (av : List Value) (h : zH) : Array Value → State → Prop := va_Pc av (fun U => zR D dA H0 h U.heap ∧ zK D dA H0 U ∧ zKX H0 U)
theorem zPcX_blind {D : va_G} {dA : Nat → ClassId} {H0 : Heap} {av : List Value} {h : zH} : FrameBlind (zPcX D dA H0 av h) := fun a U g mk q => by
  obtain ⟨q0, q1, q2, q3⟩ := q
  exact ⟨q0, q1, zK.moved (u := U) (U := U.calling g mk a) (Vm.Alike.refl U.vm) q2, zKX.same (s := U) (U := U.calling g mk a) rfl q3⟩
def zMetX (F : zF) (y : MethodName) (cc : ByteArray) (nL : Nat) (ret : Option FieldType) (rm : Room) (av : List Value) (h : zH) (post : Option Value → zH → Prop) : Prop :=
  match F with
  | (l, D, dA, H0) => vx_Met l y (Cond.code y cc nL ret :: zW) rm (zPcX D dA H0 av h) (zQc D dA H0 post) (zXC D dA H0 h) rm.cells rm.slots (fun q => H0.size ≤ q)
def zGX (F : zF) (X : zX) : Prop :=
  match F, X with
  | (l, D, dA, H0), (p, e, R, s, m, args, below, meth, c, Q, nL') => (∀ x ∈ c.exceptionTable.toList, False) ∧ zKX H0 s ∧ (H0.size ≤ s.heap.size ∧ ∀ q : Nat, q < H0.size → s.heap[q]? = H0[q]?)
def zZX (F : zF) (X : zX) (post : Option Value → zH → Prop) (h : zH) (mc ms : Nat) : Prop :=
  match F, X with
  | (l, D, dA, H0), (p, e, R, s, m, args, below, meth, c, Q, nL') => Q = vx_MQ below (zQc D dA H0 post) (zXC D dA H0 h) args s mc ms (fun q => H0.size ≤ q)
theorem zMetX_of {F : zF} {y : MethodName} {cc : ByteArray} {nL : Nat} {ret : Option FieldType} {rm : Room} {av : List Value} {lv : zLv} {h : zH} {post : Option Value → zH → Prop} (hy : plainName y.cls = true) (hn : (lg_sl av).length ≤ nL) (hlv : lv_args 0 av = lv)
    (body : ∀ X : zX, zG F X y cc nL ret rm h.2 → zGX F X → zZX F X post h rm.cells rm.slots → zV F X h 0 lv []) : zMetX F y cc nL ret rm av h post := by
  obtain ⟨l, D, dA, H0⟩ := F
  refine vx_ofW (cc := cc) (maxL := nL) (ret := ret) hy rfl ?_
  intro p e s m args below meth c s₁ B hml ht hv
  obtain ⟨rfl, hR, hK, hKX⟩ := hv
  have hts := atoms_spec (ws := Cond.code y cc nL ret :: zW) B.pre
  have hl := lv_entry av (n := nL) hn
  rw [lg_entry_eq]
  rw [hlv] at hl
  exact body (p, e, rm, s, m, av.toArray, below, meth, c, _, nL) ⟨rfl, rfl, B.exec, B.bytes, hml, B.returns, B.notSynchronized, findClass_of_methodNamed B.named, (name_of_methodNamed B.named B.method).1, fun w hw => hts w (List.mem_cons_of_mem _ hw), hK, hR.1, hR.2.1⟩ ⟨ht, hKX, by have := hR.1; omega, hR.2.2.1⟩ rfl s.heap [] _ 0 0 hR (fun q hq => by cases hq) hl
section NXT
variable {p : Program} {l : Launch} {e : Env} {R : Room} {s : State} {m : MethodId} {args : Array Value} {below : List Frame} {meth : Method} {c : Code} {H : Heap} {locs : List Loc} {cells slots : Nat} {ls : Array Slot} {rest : List Value} {Qc : Array Value → State → Outcome → State → Prop} {XC : String → State → State → Prop} {free : Addr → Prop}
/-- new, dup, ldc, the constructor, athrow (follows vx_throwS) -/
theorem nx_throw {cc : ByteArray} {pc : Nat} (hexec : p.tables.exec = Jvm.exec) (hb : c.code = cc) (hl : l.stackTraces = false) {text : String} {is mc ms sa : Nat} {A : Nat → Prop}
    (hown : s.vm.findClass RX7 = some m.cls) (hk : (Cond.classLink RX7 115 nseN).before args s = true) (hini : (Cond.initialized nseN).before args s = true) (hstr : vk_R RX7 is text sa s) (hz : ∀ w ∈ zW, w.before args s = true) (hw9 : ∀ w ∈ nxW, w.before args s = true)
    (hU : vx_Zq Bundle.tN "UNASSIGNED_STACK" Bundle.steD A s s.heap) (hN : vx_Zq Bundle.tN "SUPPRESSED_SENTINEL" Bundle.listD A s s.heap) (hS : va_S A s.heap H locs) (hsize : ls.size = c.maxLocals)
    (d0 : decode cc pc = .ok (.new 115, 3)) (d3 : decode cc (pc + 3) = .ok (.dup, 1)) (d4 : decode cc (pc + 4) = .ok (.ldc is, 2)) (d6 : decode cc (pc + 6) = .ok (.invokespecial 119, 3)) (d9 : decode cc (pc + 9) = .ok (.athrow, 1))
    (hout : ∀ x ∈ c.exceptionTable.toList, covers x (pc + 9) = false)
    (hRframes : 5 < R.frames) (hRlocals : (rest.map fun v => v.category).sum + 82 ≤ R.locals) (hRcells : cells + 1 ≤ R.cells) (hRslots : slots + 6 ≤ R.slots) (hlocks : meth.locks = false)
    (hx : ∀ t : State, s.vm.Alike t.vm → H.size ≤ t.heap.size → (∀ q : Nat, q < H.size → t.heap[q]? = H[q]?) → XC nseN s t)
    (hf : ∀ z ∈ locs, free z.base) (hc : cells + 1 ≤ mc) (hs : slots + 6 ≤ ms) :
    W p l e R s m args below meth c H locs cells slots (vx_MQ below Qc XC args s mc ms free) (F0 m pc ls rest) := by
  intro T hT X
  have htr : e.platform.stackTraces = false := (show e.platform.stackTraces = l.stackTraces by rw [X.admits.platform]).trans hl
  have Y := vx_rebase X (R' := { frames := R.frames, locals := R.locals, cells := 1, slots := 6 }) (Nat.le_refl _) (Nat.le_refl _) hRcells hRslots
  obtain ⟨s', hA⟩ : ∃ z, z = (T.setVm s.vm).setFrames (.invoking m args :: below) := ⟨_, rfl⟩
  rw [← hA] at Y
  have hvm : s'.vm = s.vm := by rw [hA]; rfl
  have hhp : s'.heap = H := by rw [hA]; exact hT
  have hW0 : s.WarmedH s'.vm := by rw [hvm]; exact State.WarmedH.refl s
  have mv : ∀ w : Cond, vx_ot w = true → w.before args s = true → w.before args s' = true := fun w hg hw => vx_ot_at hW0 hvm.symm hg hw
  have hk' : (Cond.classLink RX7 115 nseN).before args s' = true := mv _ rfl hk
  have hini' : (Cond.initialized nseN).before args s' = true := mv _ rfl hini
  have hU' : vx_Zq Bundle.tN "UNASSIGNED_STACK" Bundle.steD A s' s'.heap := by rw [hhp]; exact vx_Zq.moved hW0.alike (hU.kept hS.2.1)
  have hN' : vx_Zq Bundle.tN "SUPPRESSED_SENTINEL" Bundle.listD A s' s'.heap := by rw [hhp]; exact vx_Zq.moved hW0.alike (hN.kept hS.2.1)
  have h : ∀ w ∈ nxA, w.before args s' = true := fun w hw => by
    rcases nx_cases w hw with h | h | h
    · exact mv w (by unfold vx_ot; rw [zW_good w h, Bool.or_true]) (hz w h)
    · exact mv w (nxW_tabs w h).2 (hw9 w h)
    · simp only [nxS, List.mem_cons, List.not_mem_nil, or_false] at h
      rcases h with rfl | rfl | rfl | rfl
      · exact vx_isRefq hU'.1
      · exact vx_isRefq hN'.1
      · exact hU'.2.word
      · exact hN'.2.word
  have hown' : s'.vm.findClass RX7 = some m.cls := by rw [hvm]; exact hown
  have hins : (Cond.instantiable nseN 6).before args s' = true := h _ (by simp [nxA, nxT])
  obtain ⟨vm₁, cX, kX, hfX, hkX, -, -, X₁, st1⟩ := Y.newCold hexec (own := RX7) (C := nseN) (index := 115) (n := 6) hown' hk' hins hini'
    (g := F0 m pc ls rest) rfl (by rw [hb]; exact d0) (Nat.le_refl _) (Nat.le_refl _)
  generalize hT1 : (T.setVm vm₁).pushCell { cls := cX, slots := kX.instanceTypes.map defaultValue, vm := .none } = T1 at X₁ st1
  have hcat : (Value.ref T.heap.size).category = 1 := rfl
  have hcellA : T1.heap[T.heap.size]? = some (freshCell cX kX) := by rw [← hT1]; exact State.heap_pushCell_size _ _
  have d3' : decode c.code (pc + 3) = .ok (.dup, 1) := by rw [hb]; exact d3
  have d4' : decode c.code (pc + 4) = .ok (.ldc is, 2) := by rw [hb]; exact d4
  have hstr' : vk_R RX7 is text sa s' := vk_R.warm hW0 hstr
  obtain ⟨U, hsteps, hrun, hend, hW, hsame, ce, hce, hcl9, hcv⟩ := nx_ctor X₁ hexec htr hown' h (fun x hx => nomatch hx) hfX hkX hcellA (by rw [hhp, hT]; exact Nat.le_refl _) (msg := .ref sa) rfl
    (g := { method := m, pc := pc + 6, locals := ls, stack := .ref sa :: .ref T.heap.size :: .ref T.heap.size :: rest, locked := none }) rfl hsize rfl rfl (rest := rest) rfl
    (by rw [hb]; exact d6) (by rw [hb]; exact d9) hout hRframes (by simp only [List.map_cons, List.sum_cons, hcat]; show 2 * 0 + _ + 81 ≤ _; omega) hlocks
  obtain ⟨f1, f2⟩ := vx_frame hsame
  rw [hhp] at f1 f2
  have hWs : s.WarmedH U.vm := State.WarmedH.trans hW0 hW
  have hcl : s.vm.findClass nseN = some ce.cls := by rw [← hvm]; exact hcl9
  have hall : s.sameButNew ({ U with vm := s.vm } : State) locs mc ms := by
    subst hA
    obtain ⟨e1, e2⟩ := hsame
    rw [State.setFrames_setFrames] at e1
    have h2 : (T.setVm s.vm).sameButNew ({ U with vm := s.vm } : State) [] (0 + 1) (0 + 6) := ⟨e1, e2⟩
    have h3 := X.same.trans h2
    rw [List.append_nil] at h3
    exact h3.mono hc hs
  refine ⟨U, ?_, .threw T.heap.size, hrun, hend, Or.inr ⟨T.heap.size, rfl, nseN, ce, locs, hx U hWs.alike f1 (fun q hq => f2 q hq (fun z hz => nomatch hz)), hce, hcv, hcl, hWs, hall, hf⟩⟩
  refine st1 _ ?_
  show Steps p.tables e below (T1.setTop { method := m, pc := pc + 3, locals := ls, stack := .ref T.heap.size :: rest, locked := none }) _
  jvm_step X₁.here [X₁.here.top, hexec, d3', Value.category]
  exact X₁.ldcString hexec (own := RX7) (text := text) (index := is) (a := sa) hown' hstr'.1 hstr'.2
    (g := { method := m, pc := pc + 4, locals := ls, stack := .ref T.heap.size :: .ref T.heap.size :: rest, locked := none }) rfl d4' _ hsteps
end NXT
section VXZ
variable {F : zF} {X : zX} {y : MethodName} {cc : ByteArray} {nL : Nat} {ret : Option FieldType} {rm : Room} {cn : Nat × Nat} {h : zH} {pc : Nat} {lv lv' : zLv} {st st' : List Value}
theorem v_iretX (g : zG F X y cc nL ret rm cn) {post : Option Value → zH → Prop} {h0 : zH} (hZ : zZX F X post h0 rm.cells rm.slots) {v : Int32} (hrt : ret = some .int) (hd : decode cc pc = .ok (.ireturn, 1)) (hp : post (some (.int v)) h) (hcs : h.2.1 ≤ cn.1 + rm.cells ∧ h.2.2 ≤ cn.2 + rm.slots) : zV F X h pc lv [.int v] := by
  obtain ⟨l, D, dA, H0⟩ := F
  obtain ⟨p, e, R, s, m, args, below, meth, c, Q, nL'⟩ := X
  have hZ : Q = vx_MQ below (zQc D dA H0 post) (zXC D dA H0 h0) args s rm.cells rm.slots (fun q => H0.size ≤ q) := hZ
  subst hZ
  intro H locs ls k n hR hL hl
  exact vx_ret (v_iret (F := (l, D, dA, H0)) (X := (p, e, R, s, m, args, below, meth, c, MQ below (zQc D dA H0 post) args s rm.cells rm.slots (fun q => H0.size ≤ q), nL')) (lv := lv) g rfl hrt hd hp hcs H locs ls k n hR hL hl)
theorem v_throwN (g : zG F X y cc nL ret rm h.2) (gx : zGX F X) {post : Option Value → zH → Prop} (hZ : zZX F X post h rm.cells rm.slots) (hy : y.cls = RX7) (hl : F.1.stackTraces = false) (hk : Cond.classLink RX7 115 nseN ∈ zW) (hi : Cond.initialized nseN ∈ zW) {is : Nat} {tx : String} (hs9 : ∀ (H0 : Heap) (U : State), zKX H0 U → ∃ a, vk_R RX7 is tx a U)
    (d0 : decode cc pc = .ok (.new 115, 3)) (d3 : decode cc (pc + 3) = .ok (.dup, 1)) (d4 : decode cc (pc + 4) = .ok (.ldc is, 2)) (d6 : decode cc (pc + 6) = .ok (.invokespecial 119, 3)) (d9 : decode cc (pc + 9) = .ok (.athrow, 1))
    (hw8 : (st.map fun v => v.category).sum ≤ 8) (hRm : 6 ≤ rm.frames ∧ 100 ≤ rm.locals ∧ 1 ≤ rm.cells ∧ 6 ≤ rm.slots) : zV F X h pc lv st := by
  obtain ⟨l, D, dA, H0⟩ := F
  obtain ⟨p, e, R, s, m, args, below, meth, c, Q, nL'⟩ := X
  obtain ⟨rfl, rfl, hx, hb, hml, hr, hlk, hown, hnm, hts, hK, hc0, hn0⟩ := g
  obtain ⟨ht, hKX, hH0, lo⟩ := gx
  rw [hy] at hown
  have hZ : Q = vx_MQ below (zQc D dA H0 post) (zXC D dA H0 h) args s R.cells R.slots (fun q => H0.size ≤ q) := hZ
  subst hZ
  intro H locs ls k n hR hL hlv
  refine zW_tight H0.size (by have := hR.1; omega) (fun t1 t2 => ?_)
  obtain ⟨sa, hstr⟩ := hs9 H0 s hKX
  have hsz := hR.1
  have hsm := hR.2.1
  have hA : va_S (fun q => H0.size ≤ q) s.heap H locs := ⟨by omega, fun q hq hA => by
    have : q < H0.size := Nat.not_le.mp hA
    rw [hR.2.2.1 q this, lo q this], fun z hz => hL z hz⟩
  have kp : ∀ a : Nat, a < H0.size → ¬ H0.size ≤ a → s.heap[a]? = H0[a]? := fun a ha _ => lo a ha
  exact nx_throw (cc := cc) (text := tx) (is := is) (sa := sa) (A := fun q => H0.size ≤ q) (rest := st) hx hb hl hown (hts _ hk) (hts _ hi) hstr hts (fun w hw => hKX.2.1 w hw args)
      (hKX.1.1.kept kp) (hKX.1.2.kept kp) hA (by rw [hml]; exact hlv.1) d0 d3 d4 d6 d9 (fun x hx9 => (ht x hx9).elim) (by omega) (by omega) (by omega) (by omega) hlk
      (fun t _ h1 h2 => ⟨rfl, hR.ext h1 h2⟩) (fun z hz => hL z hz) (by omega) (by omega)
end VXZ
