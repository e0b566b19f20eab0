/-! THE MACHINE, SEEN BY A PURE HEAP: cells by their addresses, counters of what was made -/
abbrev zE : Type := (Nat × vp_A) ⊕ (Nat × List Value)
abbrev zH : Type := (Nat → Option zE) × Nat × Nat
abbrev zF : Type := Launch × va_G × (Nat → ClassId) × Heap
abbrev zX : Type := Program × Env × Room × State × MethodId × Array Value × List Frame × Method × Code × (State → Prop) × Nat
abbrev zLv : Type := List (Nat × Value)
def z_e (dA : Nat → ClassId) (x : zE) : va_E := match x with
  | .inl a => .inl (dA a.1, a.2)
  | .inr o => .inr o
abbrev z_ty (dA : Nat → ClassId) : List (ClassId × FieldType) := [(dA 0, .int), (dA 1, .long), (dA 2, .boolean), (dA 3, .object RX3), (dA 4, .object RX1), (dA 5, .object RX2)]
def z_ms (H : Heap) : List Nat := H.toList.map (fun c => c.slots.size)
def z_sum (n : Nat) (H : Heap) : Nat := ((z_ms H).drop n).sum
def zR (D : va_G) (dA : Nat → ClassId) (H0 : Heap) (h : zH) (H : Heap) : Prop :=
  H.size = H0.size + h.2.1 ∧ z_sum H0.size H = h.2.2 ∧ (∀ q : Nat, q < H0.size → H[q]? = H0[q]?) ∧ ∀ (a : Nat) (x : zE), h.1 a = some x → H0.size ≤ a ∧ va_at D vwCl (a, z_e dA x) H
def z_s (h : zH) (a : Nat) (x : zE) : zH := (fun b => if b = a then some x else h.1 b, h.2)
def z_n (h : zH) (a : Nat) (x : zE) (k : Nat) : zH := (fun b => if b = a then some x else h.1 b, h.2.1 + 1, h.2.2 + k)
theorem z_s_self (h : zH) (a : Nat) (x : zE) : (z_s h a x).1 a = some x := by simp [z_s]
theorem z_s_ne {h : zH} {a b : Nat} {x : zE} (hb : b ≠ a) : (z_s h a x).1 b = h.1 b := by simp [z_s, hb]
theorem z_n_self (h : zH) (a : Nat) (x : zE) (k : Nat) : (z_n h a x k).1 a = some x := by simp [z_n]
theorem z_n_ne {h : zH} {a b k : Nat} {x : zE} (hb : b ≠ a) : (z_n h a x k).1 b = h.1 b := by simp [z_n, hb]
/-! sums of the cells' slots -/
theorem z_ms_get (H : Heap) (i : Nat) : (z_ms H)[i]? = (H[i]?).map (fun c => c.slots.size) := by simp [z_ms]
theorem z_ms_len (H : Heap) : (z_ms H).length = H.size := by simp [z_ms]
theorem z_ms_set {H H1 : Heap} {a : Nat} {c c1 : Cell} (ha : H[a]? = some c) (ha1 : H1[a]? = some c1) (hsz : H1.size = H.size) (ho : ∀ q : Nat, q ≠ a → H1[q]? = H[q]?) (he : c1.slots.size = c.slots.size) : z_ms H1 = z_ms H := by
  apply List.ext_getElem?
  intro i
  rw [z_ms_get, z_ms_get]
  by_cases hi : i = a
  · subst hi; rw [ha, ha1]; simp [he]
  · rw [ho i hi]
theorem z_ms_push {H H1 : Heap} {c : Cell} (hsz : H1.size = H.size + 1) (hc : H1[H.size]? = some c) (ho : ∀ q : Nat, q < H.size → H1[q]? = H[q]?) : z_ms H1 = z_ms H ++ [c.slots.size] := by
  apply List.ext_getElem?
  intro i
  rw [z_ms_get]
  rcases Nat.lt_trichotomy i H.size with hi | hi | hi
  · rw [ho i hi, List.getElem?_append_left (by rw [z_ms_len]; exact hi), z_ms_get]
  · subst hi; rw [hc, List.getElem?_append_right (by rw [z_ms_len]; exact Nat.le_refl _), z_ms_len]; simp
  · rw [Array.getElem?_eq_none (by omega), List.getElem?_eq_none (by simp [z_ms_len]; omega)]; rfl
theorem z_sum_set {n : Nat} {H H1 : Heap} {a : Nat} {c c1 : Cell} (ha : H[a]? = some c) (ha1 : H1[a]? = some c1) (hsz : H1.size = H.size) (ho : ∀ q : Nat, q ≠ a → H1[q]? = H[q]?) (he : c1.slots.size = c.slots.size) : z_sum n H1 = z_sum n H := by
  unfold z_sum; rw [z_ms_set ha ha1 hsz ho he]
theorem z_sum_push {n : Nat} {H H1 : Heap} {c : Cell} (hn : n ≤ H.size) (hsz : H1.size = H.size + 1) (hc : H1[H.size]? = some c) (ho : ∀ q : Nat, q < H.size → H1[q]? = H[q]?) : z_sum n H1 = z_sum n H + c.slots.size := by
  unfold z_sum; rw [z_ms_push hsz hc ho, List.drop_append_of_le_length (by rw [z_ms_len]; exact hn)]; simp
theorem z_sum_split {n : Nat} {H H1 : Heap} (hn : n ≤ H.size) (hs : H.size ≤ H1.size) (ho : ∀ q : Nat, q < H.size → (H1[q]?).map (fun c : Cell => c.slots.size) = (H[q]?).map (fun c : Cell => c.slots.size)) : z_sum n H1 = z_sum n H + z_sum H.size H1 := by
  have e : z_ms H1 = z_ms H ++ (z_ms H1).drop H.size := by
    apply List.ext_getElem?
    intro i
    rw [z_ms_get]
    by_cases hi : i < H.size
    · rw [ho i hi, List.getElem?_append_left (by rw [z_ms_len]; exact hi), z_ms_get]
    · rw [List.getElem?_append_right (by rw [z_ms_len]; omega), z_ms_len, List.getElem?_drop, z_ms_get, show H.size + (i - H.size) = i by omega]
  unfold z_sum
  rw [e, List.drop_append_of_le_length (by rw [z_ms_len]; exact hn), List.sum_append]
  congr 1
  rw [← e]
/-! the book of the cells, made tight: what was made is read off the heap -/
theorem zW_tight {p : Program} {l : Launch} {e : Env} {R : Room} {s : State} {m : MethodId} {args : Array Value} {below : List Frame} {meth : Method} {c : Code} {H : Heap} {locs : List Loc} {k n : Nat} {Q : State → Prop} {g : JFrame} (n0 : Nat) (hn0 : n0 ≤ s.heap.size)
    (kk : s.heap.size ≤ H.size → z_sum n0 s.heap ≤ z_sum n0 H → W p l e R s m args below meth c H locs (H.size - s.heap.size) (z_sum n0 H - z_sum n0 s.heap) Q g) : W p l e R s m args below meth c H locs k n Q g := by
  intro T hT X
  obtain ⟨a1, a2, a3, a4, a5, a6⟩ := X.same
  have b2 : s.heap.size ≤ H.size := by rw [← hT]; exact a2
  have b6 : ∀ q : Nat, q < s.heap.size → (H[q]?).map (fun c : Cell => c.slots.size) = (s.heap[q]?).map (fun c : Cell => c.slots.size) := by
    intro q hq
    obtain ⟨c', e1, e2, e3, e4⟩ := a6 q _ (Array.getElem?_eq_getElem hq)
    have e5 : H[q]? = some c' := by rw [← hT]; exact e1
    rw [e5, Array.getElem?_eq_getElem hq]
    simp [e3]
  have b7 := z_sum_split (n := n0) hn0 b2 b6
  have b8 : z_sum s.heap.size H = ((T.heap.toList.drop s.heap.size).map (fun c : Cell => c.slots.size)).sum := by
    unfold z_sum z_ms
    rw [hT, List.map_drop]
  refine kk b2 (by omega) T hT { X with same := ⟨a1, a2, ?_, a4, ?_, a6⟩ }
  · show T.heap.size ≤ _
    rw [hT]; omega
  · show ((T.heap.toList.drop s.heap.size).map (fun c : Cell => c.slots.size)).sum ≤ _
    rw [← b8]; omega
/-! the cells after a store, after a making -/
theorem zR.put {D : va_G} {dA : Nat → ClassId} {H0 : Heap} {h : zH} {H H1 : Heap} (r : zR D dA H0 h H) {a : Nat} {x x1 : zE} {c c1 : Cell} (hx : h.1 a = some x) (ha : H[a]? = some c) (ha1 : H1[a]? = some c1) (hsz : H1.size = H.size) (ho : ∀ q : Nat, q ≠ a → H1[q]? = H[q]?) (he : c1.slots.size = c.slots.size) (hat : va_at D vwCl (a, z_e dA x1) H1) : zR D dA H0 (z_s h a x1) H1 := by
  obtain ⟨r1, r2, r3, r4⟩ := r
  have hb := (r4 a x hx).1
  refine ⟨hsz.trans r1, (z_sum_set ha ha1 hsz ho he).trans r2, fun q hq => (ho q (by omega)).trans (r3 q hq), fun b y hy => ?_⟩
  by_cases hba : b = a
  · subst hba
    rw [z_s_self] at hy
    cases hy
    exact ⟨hb, hat⟩
  · rw [z_s_ne hba] at hy
    obtain ⟨g1, g2⟩ := r4 b y hy
    exact ⟨g1, g2.kept (ho b hba)⟩
theorem zR.fresh {D : va_G} {dA : Nat → ClassId} {H0 : Heap} {h : zH} {H : Heap} (r : zR D dA H0 h H) : h.1 H.size = none := by
  cases hx : h.1 H.size with
  | none => rfl
  | some x => exact absurd ((r.2.2.2 _ x hx).2.lt) (Nat.lt_irrefl _)
theorem zR.push {D : va_G} {dA : Nat → ClassId} {H0 : Heap} {h : zH} {H H1 : Heap} (r : zR D dA H0 h H) {x1 : zE} {c1 : Cell} {k : Nat} (ha1 : H1[H.size]? = some c1) (hsz : H1.size = H.size + 1) (ho : ∀ q : Nat, q < H.size → H1[q]? = H[q]?) (he : c1.slots.size = k) (hat : va_at D vwCl (H.size, z_e dA x1) H1) : zR D dA H0 (z_n h H.size x1 k) H1 := by
  have hfr := r.fresh
  obtain ⟨r1, r2, r3, r4⟩ := r
  refine ⟨by show H1.size = H0.size + (h.2.1 + 1); omega, ?_, fun q hq => (ho q (by omega)).trans (r3 q hq), fun b y hy => ?_⟩
  · show z_sum H0.size H1 = h.2.2 + k
    rw [z_sum_push (by omega) hsz ha1 ho, r2, he]
  · by_cases hba : b = H.size
    · subst hba
      rw [z_n_self] at hy
      cases hy
      exact ⟨by omega, hat⟩
    · rw [z_n_ne hba] at hy
      obtain ⟨g1, g2⟩ := r4 b y hy
      exact ⟨g1, g2.kept (ho b g2.lt)⟩
/-! what the tables, and the cells that were there before, say -/
def zWM (j : Nat) : Value := match j with
  | 0 => .long (-6148914691236517206)
  | 1 => .long (-3689348814741910324)
  | 2 => .long (-1085102592571150096)
  | 3 => .long (-71777214294589696)
  | 4 => .long (-281470681808896)
  | _ => .long (-4294967296)
def zK (D : va_G) (dA : Nat → ClassId) (H0 : Heap) (U : State) : Prop := va_K D vwCl (z_ty dA) U ∧ (va_AO RX3 U ∧ va_AO RX1 U ∧ va_AO RX2 U) ∧ ∃ t : Nat, va_Z RX3 "WITH_MATCH" "[J" (.ref t) (fun q => H0.size ≤ q) U H0 ∧ va_T .long t 6 zWM (fun q => H0.size ≤ q) U H0
theorem zK.moved {D : va_G} {dA : Nat → ClassId} {H0 : Heap} {u U : State} (hvm : u.vm.Alike U.vm) (h : zK D dA H0 u) : zK D dA H0 U := by
  obtain ⟨h1, ⟨h4, h5, h6⟩, t, h2, h3⟩ := h
  exact ⟨h1.moved hvm, ⟨h4.moved hvm, h5.moved hvm, h6.moved hvm⟩, t, h2.moved hvm, h3.moved hvm⟩
def zW : List Cond := lw_tbl.filter goodWord
theorem zW_good : ∀ w ∈ zW, goodWord w = true := fun w h => (List.mem_filter.mp h).2
theorem zW_in {w : Cond} (h : w ∈ lw_tbl) (g : goodWord w = true) : w ∈ zW := List.mem_filter.mpr ⟨h, g⟩
/-! the judgement: from here on the machine comes to an end with Q -/
def zV (F : zF) (X : zX) (h : zH) (pc : Nat) (lv : zLv) (st : List Value) : Prop :=
  match F, X with
  | (l, D, dA, H0), (p, e, R, s, m, args, below, meth, c, Q, nL) => ∀ (H : Heap) (locs : List Loc) (ls : Array Slot) (k n : Nat), zR D dA H0 h H → (∀ q ∈ locs, H0.size ≤ q.base) → lv_has ls nL lv → W p l e R s m args below meth c H locs k n Q (F0 m pc ls st)
def zG (F : zF) (X : zX) (y : MethodName) (cc : ByteArray) (nL : Nat) (ret : Option FieldType) (rm : Room) (cn : Nat × Nat) : Prop :=
  match F, X with
  | (l, D, dA, H0), (p, e, R, s, m, args, below, meth, c, Q, nL') => nL' = nL ∧ R = rm ∧ p.tables.exec = Jvm.exec ∧ c.code = cc ∧ c.maxLocals = nL ∧ meth.sig.returnType = ret ∧ meth.locks = false ∧ s.vm.findClass y.cls = some m.cls ∧ meth.name = y.name ∧ (∀ w ∈ zW, w.before args s = true) ∧ zK D dA H0 s ∧ s.heap.size = H0.size + cn.1 ∧ z_sum H0.size s.heap = cn.2
def zPc (D : va_G) (dA : Nat → ClassId) (H0 : Heap) (av : List Value) (h : zH) : Array Value → State → Prop := va_Pc av (fun U => zR D dA H0 h U.heap ∧ zK D dA H0 U)
def zQc (D : va_G) (dA : Nat → ClassId) (H0 : Heap) (post : Option Value → zH → Prop) : Array Value → State → Outcome → State → Prop := fun _ _ o t => ∃ (v : Option Value) (h' : zH), o = .returned v ∧ post v h' ∧ zR D dA H0 h' t.heap
def zZ (F : zF) (X : zX) (post : Option Value → zH → Prop) (mc ms : Nat) : Prop :=
  match F, X with
  | (l, D, dA, H0), (p, e, R, s, m, args, below, meth, c, Q, nL') => Q = MQ below (zQc D dA H0 post) args s mc ms (fun q => H0.size ≤ q)
/-- a method's contract: at these arguments, over this heap -/
def zMet (F : zF) (y : MethodName) (cc : ByteArray) (nL : Nat) (ret : Option FieldType) (rm : Room) (av : List Value) (h : zH) (post : Option Value → zH → Prop) : Prop :=
  match F with
  | (l, D, dA, H0) => Met l y (Cond.code y cc nL ret :: zW) rm (zPc D dA H0 av h) (zQc D dA H0 post) rm.cells rm.slots (fun q => H0.size ≤ q)
theorem zMet_of {F : zF} {y : MethodName} {cc : ByteArray} {nL : Nat} {ret : Option FieldType} {rm : Room} {av : List Value} {lv : zLv} {h : zH} {post : Option Value → zH → Prop} (hy : plainName y.cls = true) (hn : (lg_sl av).length ≤ nL) (hlv : lv_args 0 av = lv)
    (body : ∀ X : zX, zG F X y cc nL ret rm h.2 → zZ F X post rm.cells rm.slots → zV F X h 0 lv []) : zMet F y cc nL ret rm av h post := by
  obtain ⟨l, D, dA, H0⟩ := F
  refine Met.ofW (cc := cc) (maxL := nL) (ret := ret) hy rfl ?_
  intro p e s m args below meth c s₁ B hml hv
  obtain ⟨rfl, hR, hK⟩ := hv
  have hts := atoms_spec (ws := Cond.code y cc nL ret :: zW) B.pre
  have hl := lv_entry av (n := nL) hn
  rw [lg_entry_eq]
  rw [hlv] at hl
  exact body (p, e, rm, s, m, av.toArray, below, meth, c, _, nL) ⟨rfl, rfl, B.exec, B.bytes, hml, B.returns, B.notSynchronized, findClass_of_methodNamed B.named, (name_of_methodNamed B.named B.method).1, fun w hw => hts w (List.mem_cons_of_mem _ hw), hK, hR.1, hR.2.1⟩ rfl s.heap [] _ 0 0 hR (fun q hq => by cases hq) hl
