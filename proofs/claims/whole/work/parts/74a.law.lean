/-! the law: its end, its script, each of its calls -/
def R_law : String := "PoolsHallLaw"
def lw_P (b : Addr) (xs : List Int32) (args : Array Value) (s : State) : Prop := args = #[.ref b] ∧ s.IntsAt b xs ∧ xs.length ≤ 3072 ∧ (Jvm.Cond.and given_1 narrow_1).before args s = true
def lw_Q (_ : Array Value) (s : State) (o : Outcome) (t : State) : Prop := o = .returned (some (.int 1)) ∧ Framed s o t [] 601024 7293034
def lw_Z (below : List Frame) (a : Array Value) (s : State) : State → Prop := fun t => ∃ o, t.status = .running ∧ Ended t below o ∧ lw_Q a s o t
/-- the law's own end, with 1 on the stack, nothing written that was there before, its room as the claim has it -/
theorem lw_ret {p : Program} {l : Launch} {e : Env} {s : State} {m : MethodId} {below : List Frame} {meth : Method} {c : Code} {b : Nat} (hx : p.tables.exec = Jvm.exec) (hb : c.code = code) (hr : meth.sig.returnType = ret) (hlocks : meth.locks = false) {pc : Nat} {H : Heap} {ls : Array Slot} (hdg : decode code pc = .ok (.ireturn, 1)) : W p l e room_1 s m #[Value.ref b] below meth c H [] 601024 7293034 (lw_Z below #[Value.ref b] s) (F0 m pc ls [.int 1]) := by
  intro T hT X
  obtain ⟨fs, hret, hrun, hended, hW, hframe⟩ := X.leave (v := some (.int 1)) (hlocks := hlocks) (fun h => by rw [hr] at h; cases h)
  have hmeth' : T.vm.method? m = some meth := X.method'
  refine ⟨T.setFrames fs, ?_, .returned (some (.int 1)), hrun, hended, rfl, ⟨_, rfl⟩, hW, hframe⟩
  jvm_step X.here [X.here.top, hx, hb, hdg, hmeth', hr, ret, narrow_b1]
  (try refine ⟨rfl, ?_⟩); (try refine ⟨rfl, ?_⟩)
  first | (intro acts; rw [hret _ acts rfl rfl rfl]) | rw [hret _ _ rfl rfl rfl]
  exact Steps.refl _
/-- what holds at the law's entry: the machine, the code, the tables' words (any of lw_tbl by 'hts w (by decide +kernel)'), the script of L ints xs at the cell b, what the Statement gives of the start (any of its parts by flat_of_before) -/
def lw_At (l : Launch) (p : Program) (s : State) (m : MethodId) (meth : Method) (c : Code) (b L : Nat) (xs : Nat → Int32) : Prop :=
  p.tables.exec = Jvm.exec ∧ c.code = code ∧ meth.sig.returnType = ret ∧ c.maxLocals = 7 ∧ s.vm.findClass R_law = some m.cls ∧ (∀ w ∈ lw_tbl, w.before #[Value.ref b] s = true) ∧ va_X b L xs s s.heap ∧ b < s.heap.size ∧ meth.locks = false ∧ (Jvm.Cond.and given_1 narrow_1).before #[Value.ref b] s = true ∧ l.stackTraces = false ∧ meth.name = "law"

def zSc (F : zF) (X : zX) (b L : Nat) (xs : Nat → Int32) : Prop :=
  match F, X with
  | (l, D, dA, H0), (p, e, R, s, m, args, below, meth, c, Q, nL') => va_X b L xs s H0 ∧ b < H0.size
def zZL (F : zF) (X : zX) (b : Nat) : Prop :=
  match F, X with
  | (l, D, dA, H0), (p, e, R, s, m, args, below, meth, c, Q, nL') => args = #[Value.ref b] ∧ H0 = s.heap ∧ Q = lw_Z below #[Value.ref b] s
section VL
variable {F : zF} {X : zX} {y : MethodName} {cc : ByteArray} {nL : Nat} {rt : Option FieldType} {rm : Room} {cn : Nat × Nat} {h : zH} {pc : Nat} {lv lv' : zLv} {st st' : List Value} {b L : Nat} {xs : Nat → Int32}
theorem v_slen (g : zG F X y cc nL rt rm cn) (sc : zSc F X b L xs) (hd : decode cc pc = .ok (.arraylength, 1)) (kk : zV F X h (pc + 1) lv (.int (nI L) :: st)) : zV F X h pc lv (.ref b :: st) := by
  obtain ⟨l, D, dA, H0⟩ := F
  obtain ⟨p, e, R, s, m, args, below, meth, c, Q, nL'⟩ := X
  obtain ⟨rfl, rfl, hx, hb, hml, hr, hlk, hown, hnm, hts, hK, hc0, hn0⟩ := g
  obtain ⟨s1, s2⟩ := sc
  intro H locs ls k n hR hL hl
  exact va_slen (A := fun q => H0.size ≤ q) hx hb s1 s2 (Nat.not_le.mpr s2) ⟨by have := hR.1; omega, fun q hq _ => hR.2.2.1 q hq, hL⟩ hd (kk H locs ls k n hR hL hl)
theorem v_sld (g : zG F X y cc nL rt rm cn) (sc : zSc F X b L xs) {i : Int32} (j : Nat) (hi : i = nI j) (hj : j < L) (hL2 : L ≤ 3072) (hd : decode cc pc = .ok (.iaload, 1)) (kk : zV F X h (pc + 1) lv (.int (xs j) :: st)) : zV F X h pc lv (.int i :: .ref b :: st) := by
  obtain ⟨l, D, dA, H0⟩ := F
  obtain ⟨p, e, R, s, m, args, below, meth, c, Q, nL'⟩ := X
  obtain ⟨rfl, rfl, hx, hb, hml, hr, hlk, hown, hnm, hts, hK, hc0, hn0⟩ := g
  obtain ⟨s1, s2⟩ := sc
  intro H locs ls k n hR hL hl
  obtain ⟨i1, i2⟩ := z_in hi hj (by omega)
  exact va_sld (A := fun q => H0.size ≤ q) hx hb s1 s2 (Nat.not_le.mpr s2) ⟨by have := hR.1; omega, fun q hq _ => hR.2.2.1 q hq, hL⟩ (fun q => q.elim (fun q => i1 (Or.inl q)) (fun q => by rw [i2] at q; omega)) hd (by rw [i2]; exact kk H locs ls k n hR hL hl)
theorem v_end (g : zG F X yL_law cL_law 7 ret room_1 (0, 0)) (z : zZL F X b) (hb9 : h.2.1 ≤ 4000 ∧ h.2.2 ≤ 600000) : zV F X h 1096 lv [.int 1] := by
  obtain ⟨l, D, dA, H0⟩ := F
  obtain ⟨p, e, R, s, m, args, below, meth, c, Q, nL'⟩ := X
  obtain ⟨rfl, rfl, hx, hb, hml, hr, hlk, hown, hnm, hts, hK, hc0, hn0⟩ := g
  obtain ⟨rfl, rfl, rfl⟩ := z
  intro H locs ls k n hR hL hl
  refine zW_tight s.heap.size (Nat.le_refl _) (fun t1 t2 => ?_)
  have r1 := hR.1
  have r2 := hR.2.1
  refine va_forget (fun q hq => hL q hq) (W.widen (k := 601024) (n := 7293034) (by omega) (by omega) ?_)
  exact lw_ret hx hb hr hlk (by decide +kernel)
end VL
