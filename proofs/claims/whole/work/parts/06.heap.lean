/-! rows of the judgement: fields, arrays, makings -/
abbrev aI (n : Nat) (f : Nat → Int32) : zE := .inl (0, n, .inl f)
abbrev aJ (n : Nat) (f : Nat → Int64) : zE := .inl (1, n, .inr (.inl f))
abbrev aZ (n : Nat) (f : Nat → Int32) : zE := .inl (2, n, .inl f)
abbrev aQ (k n : Nat) (f : Nat → Option Nat) : zE := .inl (k, n, .inr (.inr (.inr (.inr f))))
abbrev oB (ci : Nat) (fs : List Value) : zE := .inr (ci, fs)
theorem zR.P {D : va_G} {dA : Nat → ClassId} {H0 : Heap} {h : zH} {H : Heap} (r : zR D dA H0 h H) {a : Nat} {x : zE} (ha : h.1 a = some x) : va_P D vwCl [(a, z_e dA x)] H := fun k q hk => by
  cases k with
  | zero => cases hk; exact (r.2.2.2 a x ha).2
  | succ k => simp at hk
theorem zR.ge {D : va_G} {dA : Nat → ClassId} {H0 : Heap} {h : zH} {H : Heap} (r : zR D dA H0 h H) {a : Nat} {x : zE} (ha : h.1 a = some x) : H0.size ≤ a := (r.2.2.2 a x ha).1
theorem zL_app {H0 : Heap} {locs : List Loc} {a i : Nat} (hL : ∀ q ∈ locs, H0.size ≤ q.base) (ha : H0.size ≤ a) : ∀ q ∈ locs ++ [(⟨a, i⟩ : Loc)], H0.size ≤ q.base := fun q hq => by
  rcases List.mem_append.mp hq with h | h
  · exact hL q h
  · rcases List.mem_singleton.mp h with rfl; exact ha
def zFL (own : String) (idx ci k : Nat) (t : FieldType) (fin : Bool) : Prop := ∃ (C : String) (T : u_T) (N : Nat) (ty : Nat → FieldType), vwCl[ci]? = some (C, T, N) ∧ k < N ∧ (∀ w ∈ u_ws C T N, w ∈ zW) ∧ Cond.fieldLink own idx (T k).1 (T k).2.1 (T k).2.2.1 ∈ zW ∧ (∀ j, j < N → parseFieldDescriptor (T j).2.2.1 = some (ty j)) ∧ (∀ a, a < N → ∀ b, b < N → a ≠ b → (T a).2.1 ≠ (T b).2.1) ∧ ty k = t ∧ (T k).2.2.2 = fin ∧ (T k).1 = C
def zNL (own : String) (idx ci : Nat) (fs : List Value) (N : Nat) : Prop := ∃ (C : String) (T : u_T) (ty : Nat → FieldType), vwCl[ci]? = some (C, T, N) ∧ (∀ w ∈ u_ws C T N, w ∈ zW) ∧ Cond.classLink own idx C ∈ zW ∧ Cond.instantiable C N ∈ zW ∧ Cond.initialized C ∈ zW ∧ (∀ j, j < N → parseFieldDescriptor (T j).2.2.1 = some (ty j)) ∧ (∀ j, j < N → defaultValue (ty j) = vp_V fs j)
theorem z_in {i : Int32} {j n : Nat} (hi : i = nI j) (hj : j < n) (hn : n ≤ 1000000) : vp_in i n ∧ i.toNatClampNeg = j := by
  subst hi
  exact ⟨vp_in_nI hj (by omega), nI_clamp (by omega)⟩
section VH
variable {F : zF} {X : zX} {y : MethodName} {cc : ByteArray} {nL : Nat} {ret : Option FieldType} {rm : Room} {cn : Nat × Nat} {h : zH} {pc : Nat} {lv lv' : zLv} {st st' : List Value}
theorem v_get (g : zG F X y cc nL ret rm cn) {a ci k idx : Nat} {fs : List Value} {t : FieldType} {fin : Bool} {v : Value} (ha : h.1 a = some (oB ci fs)) (L : zFL y.cls idx ci k t fin) (hv : fs[k]? = some v) (hd : decode cc pc = .ok (.getfield idx, 3)) (kk : zV F X h (pc + 3) lv (v :: st)) : zV F X h pc lv (.ref a :: st) := by
  obtain ⟨l, D, dA, H0⟩ := F
  obtain ⟨p, e, R, s, m, args, below, meth, c, Q, nL'⟩ := X
  obtain ⟨rfl, rfl, hx, hb, hml, hr, hlk, hown, hnm, hts, hK, hc0, hn0⟩ := g
  intro H locs ls k9 n9 hR hL hl
  obtain ⟨C, T, N, ty, c1, c2, c3, c4, c5, c6, c7, c8, c9⟩ := L
  exact va_get (D := D) (ci := ci) (v := v) (C := C) (T := T) (N := N) hx hb hts c3 hown hK.1 (hR.P ha) 0 rfl c1 k c2 (hts _ c4) (fun _ h9 => h9) hv hd (kk H locs ls k9 n9 hR hL hl)
theorem v_put (g : zG F X y cc nL ret rm cn) {a ci k idx : Nat} {fs fs' : List Value} {t : FieldType} {v : Value} (ha : h.1 a = some (oB ci fs)) (L : zFL y.cls idx ci k t false) (hn : narrow t v = v) (hf : fits t v = true) (hl2 : k < fs.length) (hs : fs.set k v = fs') (hd : decode cc pc = .ok (.putfield idx, 3)) (kk : zV F X (z_s h a (oB ci fs')) (pc + 3) lv st) : zV F X h pc lv (v :: .ref a :: st) := by
  obtain ⟨l, D, dA, H0⟩ := F
  obtain ⟨p, e, R, s, m, args, below, meth, c, Q, nL'⟩ := X
  obtain ⟨rfl, rfl, hx, hb, hml, hr, hlk, hown, hnm, hts, hK, hc0, hn0⟩ := g
  intro H locs ls k9 n9 hR hL hl
  subst hs
  obtain ⟨C, T, N, ty, hc, c2, hin, c4, hty, hnm2, c7, hfin, c9⟩ := L
  have hap := va_apart (own := y.cls) hts hin ty hty hnm2 hK.1 hc
  obtain ⟨r, h1, cell, q1, q2, q3, q4⟩ := (hR.2.2.2 a _ ha).2
  have hr2 : r = (C, T, N) := Option.some.inj (h1.symm.trans hc)
  subst hr2
  obtain ⟨hS, hfc, kC, hkC, hkind⟩ := hK.1.1 ci _ hc
  obtain ⟨cf, kf, fi, f, hi, hsl⟩ := hS k c2
  have hlay := hts _ (hin _ (u_in_lay c2))
  unfold u_lay at hlay
  rw [if_neg (by rw [hfin]; decide)] at hlay
  have hst := (u_facts hfc hkC (u_lays hts hin c2) hi).1
  have h6 := u_store hfc hkC hkind hlay hi ((hty k c2).trans (by rw [c7])) hn hf
  refine W.putK hx hb (f := f) ⟨hown, hts _ c4, ⟨_, _, _, hi⟩, hst⟩ (by rw [q2]; exact h6) q1 q3 (by rw [hsl]; exact k2_hasslot (q4 k c2)) rfl rfl hd fun H' e1 e2 e3 => ?_
  rw [hsl] at e1 ⊢
  refine kk H' _ ls k9 n9 (hR.put ha q1 e1 e2 e3 (by simp [Cell.setSlot]) ⟨_, hc, t_OB.to (V := updV (vp_V fs) k v) ⟨_, e1, q2, q3, t_set q4 hap c2 v⟩ (fun j _ => vp_updV_set hl2 v j)⟩) (zL_app hL (hR.ge ha)) hl
theorem v_putF (g : zG F X y cc nL ret rm cn) {a ci k idx : Nat} {fs fs' : List Value} {t : FieldType} {v : Value} (ha : h.1 a = some (oB ci fs)) (L : zFL y.cls idx ci k t true) (hin2 : y.name = "<init>") (hci : vwCl[ci]?.map (fun q => q.1) = some y.cls) (hn : narrow t v = v) (hf : fits t v = true) (hl2 : k < fs.length) (hs : fs.set k v = fs') (hd : decode cc pc = .ok (.putfield idx, 3)) (kk : zV F X (z_s h a (oB ci fs')) (pc + 3) lv st) : zV F X h pc lv (v :: .ref a :: st) := by
  obtain ⟨l, D, dA, H0⟩ := F
  obtain ⟨p, e, R, s, m, args, below, meth, c, Q, nL'⟩ := X
  obtain ⟨rfl, rfl, hx, hb, hml, hr, hlk, hown, hnm, hts, hK, hc0, hn0⟩ := g
  intro H locs ls k9 n9 hR hL hl
  subst hs
  obtain ⟨C, T, N, ty, hc, c2, hin, c4, hty, hnm2, c7, hfin, c9⟩ := L
  have hCy : C = y.cls := by rw [hc] at hci; exact Option.some.inj hci
  have hap := va_apart (own := y.cls) hts hin ty hty hnm2 hK.1 hc
  obtain ⟨r, h1, cell, q1, q2, q3, q4⟩ := (hR.2.2.2 a _ ha).2
  have hr2 : r = (C, T, N) := Option.some.inj (h1.symm.trans hc)
  subst hr2
  obtain ⟨hS, hfc, kC, hkC, hkind⟩ := hK.1.1 ci _ hc
  obtain ⟨cf, kf, fi, f, hi, hsl⟩ := hS k c2
  have hlay := hts _ (hin _ (u_in_lay c2))
  unfold u_lay at hlay
  rw [if_pos hfin] at hlay
  have hst := (u_facts hfc hkC (u_lays hts hin c2) hi).1
  have hcf : m.cls = cf := by
    obtain ⟨_, _, c', _, _, _, -, -, hf', -, -, -, hown2, -⟩ := Cond.laysFinal_spec hlay
    have e1 : c' = cf := by have := hi.symm.trans hf'; simp at this; exact this.1.symm
    rw [c9, hCy] at hown2
    rw [← e1]; exact Option.some.inj (hown.symm.trans hown2)
  have h6 := u_fits hfc hkC hkind (Or.inr hlay) hi ((hty k c2).trans (by rw [c7])) hn hf
  refine W.putFinK hx hb hown (hts _ c4) hi hst hcf (hnm.trans hin2) (by rw [q2]; exact h6) q1 q3 (by rw [hsl]; exact k2_hasslot (q4 k c2)) rfl rfl hd fun H' e1 e2 e3 => ?_
  rw [hsl] at e1 ⊢
  refine kk H' _ ls k9 n9 (hR.put ha q1 e1 e2 e3 (by simp [Cell.setSlot]) ⟨_, hc, t_OB.to (V := updV (vp_V fs) k v) ⟨_, e1, q2, q3, t_set q4 hap c2 v⟩ (fun j _ => vp_updV_set hl2 v j)⟩) (zL_app hL (hR.ge ha)) hl
theorem v_iald (g : zG F X y cc nL ret rm cn) {a n : Nat} {f : Nat → Int32} {i : Int32} (ha : h.1 a = some (aI n f)) (j : Nat) (hi : i = nI j) (hj : j < n) (hn : n ≤ 1000000) (hd : decode cc pc = .ok (.iaload, 1)) (kk : zV F X h (pc + 1) lv (.int (f j) :: st)) : zV F X h pc lv (.int i :: .ref a :: st) := by
  obtain ⟨l, D, dA, H0⟩ := F
  obtain ⟨p, e, R, s, m, args, below, meth, c, Q, nL'⟩ := X
  obtain ⟨rfl, rfl, hx, hb, hml, hr, hlk, hown, hnm, hts, hK, hc0, hn0⟩ := g
  intro H locs ls k9 n9 hR hL hl
  obtain ⟨i1, i2⟩ := z_in hi hj hn
  exact va_iald hx hb hK.1 (hR.P ha) 0 0 rfl rfl i1 hd (by rw [i2]; exact kk H locs ls k9 n9 hR hL hl)
theorem v_lald (g : zG F X y cc nL ret rm cn) {a n : Nat} {f : Nat → Int64} {i : Int32} (ha : h.1 a = some (aJ n f)) (j : Nat) (hi : i = nI j) (hj : j < n) (hn : n ≤ 1000000) (hd : decode cc pc = .ok (.laload, 1)) (kk : zV F X h (pc + 1) lv (.long (f j) :: st)) : zV F X h pc lv (.int i :: .ref a :: st) := by
  obtain ⟨l, D, dA, H0⟩ := F
  obtain ⟨p, e, R, s, m, args, below, meth, c, Q, nL'⟩ := X
  obtain ⟨rfl, rfl, hx, hb, hml, hr, hlk, hown, hnm, hts, hK, hc0, hn0⟩ := g
  intro H locs ls k9 n9 hR hL hl
  obtain ⟨i1, i2⟩ := z_in hi hj hn
  exact va_lald hx hb hK.1 (hR.P ha) 0 1 rfl rfl i1 hd (by rw [i2]; exact kk H locs ls k9 n9 hR hL hl)
theorem v_zald (g : zG F X y cc nL ret rm cn) {a n : Nat} {f : Nat → Int32} {i : Int32} (ha : h.1 a = some (aZ n f)) (j : Nat) (hi : i = nI j) (hj : j < n) (hn : n ≤ 1000000) (hd : decode cc pc = .ok (.baload, 1)) (kk : zV F X h (pc + 1) lv (.int (f j) :: st)) : zV F X h pc lv (.int i :: .ref a :: st) := by
  obtain ⟨l, D, dA, H0⟩ := F
  obtain ⟨p, e, R, s, m, args, below, meth, c, Q, nL'⟩ := X
  obtain ⟨rfl, rfl, hx, hb, hml, hr, hlk, hown, hnm, hts, hK, hc0, hn0⟩ := g
  intro H locs ls k9 n9 hR hL hl
  obtain ⟨i1, i2⟩ := z_in hi hj hn
  exact va_zald hx hb hK.1 (hR.P ha) 0 2 rfl rfl i1 hd (by rw [i2]; exact kk H locs ls k9 n9 hR hL hl)
theorem v_aald3 (g : zG F X y cc nL ret rm cn) {a n : Nat} {f : Nat → Option Nat} {i : Int32} (ha : h.1 a = some (aQ 3 n f)) (j : Nat) (hi : i = nI j) (hj : j < n) (hn : n ≤ 1000000) (hd : decode cc pc = .ok (.aaload, 1)) (kk : zV F X h (pc + 1) lv (va_rf (f j) :: st)) : zV F X h pc lv (.int i :: .ref a :: st) := by
  obtain ⟨l, D, dA, H0⟩ := F
  obtain ⟨p, e, R, s, m, args, below, meth, c, Q, nL'⟩ := X
  obtain ⟨rfl, rfl, hx, hb, hml, hr, hlk, hown, hnm, hts, hK, hc0, hn0⟩ := g
  intro H locs ls k9 n9 hR hL hl
  obtain ⟨i1, i2⟩ := z_in hi hj hn
  exact va_aldq hx hb hK.1 (hR.P ha) 0 3 rfl rfl i1 hd (by rw [i2]; exact kk H locs ls k9 n9 hR hL hl)
theorem v_aald4 (g : zG F X y cc nL ret rm cn) {a n : Nat} {f : Nat → Option Nat} {i : Int32} (ha : h.1 a = some (aQ 4 n f)) (j : Nat) (hi : i = nI j) (hj : j < n) (hn : n ≤ 1000000) (hd : decode cc pc = .ok (.aaload, 1)) (kk : zV F X h (pc + 1) lv (va_rf (f j) :: st)) : zV F X h pc lv (.int i :: .ref a :: st) := by
  obtain ⟨l, D, dA, H0⟩ := F
  obtain ⟨p, e, R, s, m, args, below, meth, c, Q, nL'⟩ := X
  obtain ⟨rfl, rfl, hx, hb, hml, hr, hlk, hown, hnm, hts, hK, hc0, hn0⟩ := g
  intro H locs ls k9 n9 hR hL hl
  obtain ⟨i1, i2⟩ := z_in hi hj hn
  exact va_aldq hx hb hK.1 (hR.P ha) 0 4 rfl rfl i1 hd (by rw [i2]; exact kk H locs ls k9 n9 hR hL hl)
theorem v_aald5 (g : zG F X y cc nL ret rm cn) {a n : Nat} {f : Nat → Option Nat} {i : Int32} (ha : h.1 a = some (aQ 5 n f)) (j : Nat) (hi : i = nI j) (hj : j < n) (hn : n ≤ 1000000) (hd : decode cc pc = .ok (.aaload, 1)) (kk : zV F X h (pc + 1) lv (va_rf (f j) :: st)) : zV F X h pc lv (.int i :: .ref a :: st) := by
  obtain ⟨l, D, dA, H0⟩ := F
  obtain ⟨p, e, R, s, m, args, below, meth, c, Q, nL'⟩ := X
  obtain ⟨rfl, rfl, hx, hb, hml, hr, hlk, hown, hnm, hts, hK, hc0, hn0⟩ := g
  intro H locs ls k9 n9 hR hL hl
  obtain ⟨i1, i2⟩ := z_in hi hj hn
  exact va_aldq hx hb hK.1 (hR.P ha) 0 5 rfl rfl i1 hd (by rw [i2]; exact kk H locs ls k9 n9 hR hL hl)
theorem v_iast (g : zG F X y cc nL ret rm cn) {a n : Nat} {f : Nat → Int32} {i : Int32} {x : Int32} (ha : h.1 a = some (aI n f)) (j : Nat) (hi : i = nI j) (hj : j < n) (hn : n ≤ 1000000) (hd : decode cc pc = .ok (.iastore, 1)) (kk : zV F X (z_s h a (aI n (upd f j x))) (pc + 1) lv st) : zV F X h pc lv (.int x :: .int i :: .ref a :: st) := by
  obtain ⟨l, D, dA, H0⟩ := F
  obtain ⟨p, e, R, s, m, args, below, meth, c, Q, nL'⟩ := X
  obtain ⟨rfl, rfl, hx, hb, hml, hr, hlk, hown, hnm, hts, hK, hc0, hn0⟩ := g
  intro H locs ls k9 n9 hR hL hl
  obtain ⟨i1, i2⟩ := z_in hi hj hn
  have hc : H[a]? = some (vp_cell _ _) := hR.P ha 0 _ rfl
  refine W.iast hx hb hc ((hK.1.2 0 _ rfl).1 n (fun j => .int (f j))) (fun q => by cases q) (by show ¬ (i < 0 ∨ (arrV _ _ _).slots.size ≤ _); rw [arrV_size]; exact i1) rfl rfl hd fun H1 e1 e2 e3 => ?_
  rw [i2] at e1 ⊢
  have e4 : H1[a]? = some (vp_cell (dA 0) (n, .inl (upd f j x))) := by
    rw [e1, vp_cell_i, vp_cell_i, arrV_store]
    congr 2
    funext q
    by_cases hq : q = j
    · subst hq
      simp [updV, upd, vp_updL]
    · simp [updV, upd, vp_updL, hq]
  exact kk H1 _ ls k9 n9 (hR.put ha hc e4 e2 e3 (by rw [vp_cell_i, vp_cell_i, arrV_size, arrV_size]) e4) (zL_app hL (hR.ge ha)) hl
theorem v_last (g : zG F X y cc nL ret rm cn) {a n : Nat} {f : Nat → Int64} {i : Int32} {x : Int64} (ha : h.1 a = some (aJ n f)) (j : Nat) (hi : i = nI j) (hj : j < n) (hn : n ≤ 1000000) (hd : decode cc pc = .ok (.lastore, 1)) (kk : zV F X (z_s h a (aJ n (vp_updL f j x))) (pc + 1) lv st) : zV F X h pc lv (.long x :: .int i :: .ref a :: st) := by
  obtain ⟨l, D, dA, H0⟩ := F
  obtain ⟨p, e, R, s, m, args, below, meth, c, Q, nL'⟩ := X
  obtain ⟨rfl, rfl, hx, hb, hml, hr, hlk, hown, hnm, hts, hK, hc0, hn0⟩ := g
  intro H locs ls k9 n9 hR hL hl
  obtain ⟨i1, i2⟩ := z_in hi hj hn
  have hc : H[a]? = some (vp_cell _ _) := hR.P ha 0 _ rfl
  refine W.last hx hb hc ((hK.1.2 1 _ rfl).1 n (fun j => .long (f j))) (fun q => by cases q) (by show ¬ (i < 0 ∨ (arrV _ _ _).slots.size ≤ _); rw [arrV_size]; exact i1) rfl rfl hd fun H1 e1 e2 e3 => ?_
  rw [i2] at e1 ⊢
  have e4 : H1[a]? = some (vp_cell (dA 1) (n, .inr <| .inl (vp_updL f j x))) := by
    rw [e1, vp_cell_l, vp_cell_l, arrV_store]
    congr 2
    funext q
    by_cases hq : q = j
    · subst hq
      simp [updV, upd, vp_updL]
    · simp [updV, upd, vp_updL, hq]
  exact kk H1 _ ls k9 n9 (hR.put ha hc e4 e2 e3 (by rw [vp_cell_l, vp_cell_l, arrV_size, arrV_size]) e4) (zL_app hL (hR.ge ha)) hl
theorem v_zast (g : zG F X y cc nL ret rm cn) {a n : Nat} {f : Nat → Int32} {i : Int32} {x : Int32} (ha : h.1 a = some (aZ n f)) (hx01 : x = 0 ∨ x = 1) (j : Nat) (hi : i = nI j) (hj : j < n) (hn : n ≤ 1000000) (hd : decode cc pc = .ok (.bastore, 1)) (kk : zV F X (z_s h a (aZ n (upd f j x))) (pc + 1) lv st) : zV F X h pc lv (.int x :: .int i :: .ref a :: st) := by
  obtain ⟨l, D, dA, H0⟩ := F
  obtain ⟨p, e, R, s, m, args, below, meth, c, Q, nL'⟩ := X
  obtain ⟨rfl, rfl, hx, hb, hml, hr, hlk, hown, hnm, hts, hK, hc0, hn0⟩ := g
  intro H locs ls k9 n9 hR hL hl
  obtain ⟨i1, i2⟩ := z_in hi hj hn
  have hc : H[a]? = some (vp_cell _ _) := hR.P ha 0 _ rfl
  refine W.zast hx hb hc ((hK.1.2 2 _ rfl).1 n (fun j => .int (f j))) (fun q => by cases q) (by show ¬ (i < 0 ∨ (arrV _ _ _).slots.size ≤ _); rw [arrV_size]; exact i1) rfl rfl hd fun H1 e1 e2 e3 => ?_
  rw [i2] at e1 ⊢
  have e4 : H1[a]? = some (vp_cell (dA 2) (n, .inl (upd f j x))) := by
    rw [e1, vp_cell_i, vp_cell_i, arrV_store]
    congr 2
    funext q
    by_cases hq : q = j
    · subst hq
      rcases hx01 with rfl | rfl <;> simp [updV, upd, narrow] <;> rfl
    · simp [updV, upd, vp_updL, hq]
  exact kk H1 _ ls k9 n9 (hR.put ha hc e4 e2 e3 (by rw [vp_cell_i, vp_cell_i, arrV_size, arrV_size]) e4) (zL_app hL (hR.ge ha)) hl
theorem v_aast3 (g : zG F X y cc nL ret rm cn) {a n : Nat} {f : Nat → Option Nat} {i : Int32} {r : Option Nat} (ha : h.1 a = some (aQ 3 n f)) (hr9 : ∀ v, r = some v → ∃ fs, h.1 v = some (oB 3 fs)) (j : Nat) (hi : i = nI j) (hj : j < n) (hn : n ≤ 1000000) (hd : decode cc pc = .ok (.aastore, 1)) (kk : zV F X (z_s h a (aQ 3 n (va_up f j r))) (pc + 1) lv st) : zV F X h pc lv (va_rf r :: .int i :: .ref a :: st) := by
  obtain ⟨l, D, dA, H0⟩ := F
  obtain ⟨p, e, R, s, m, args, below, meth, c, Q, nL'⟩ := X
  obtain ⟨rfl, rfl, hx, hb, hml, hr, hlk, hown, hnm, hts, hK, hc0, hn0⟩ := g
  intro H locs ls k9 n9 hR hL hl
  obtain ⟨i1, i2⟩ := z_in hi hj hn
  have hc : H[a]? = some (vp_cell _ _) := hR.P ha 0 _ rfl
  have fin : ∀ H1 : Heap, H1[a]? = some ((vp_cell (dA 3) (n, .inr (.inr (.inr (.inr f))))).setSlot i.toNatClampNeg (va_rf r)) → H1.size = H.size → (∀ q, q ≠ a → H1[q]? = H[q]?) → W p l e R s m args below meth c H1 (locs ++ [⟨a, i.toNatClampNeg⟩]) k9 n9 Q (F0 m (pc + 1) ls st) := by
    intro H1 e1 e2 e3
    rw [i2] at e1 ⊢
    have e4 : H1[a]? = some (vp_cell (dA 3) (n, .inr (.inr (.inr (.inr (va_up f j r)))))) := by
      rw [e1, vp_cell_q, vp_cell_q, arrV_store]
      congr 2
      funext q
      by_cases hq : q = j
      · subst hq
        simp [updV, va_up]
      · simp [updV, va_up, hq]
    exact kk H1 _ ls k9 n9 (hR.put ha hc e4 e2 e3 (by rw [vp_cell_q, vp_cell_q, arrV_size, arrV_size]) e4) (zL_app hL (hR.ge ha)) hl
  have hlt : i.toNatClampNeg < n := by omega
  cases r with
  | none => exact va_WaastN (C := RX3) hx hb hc ((hK.1.2 3 _ rfl).1 n (fun j => va_rf (f j))) (fun h => by cases h) (by show ¬ (i < 0 ∨ (arrV _ _ _).slots.size ≤ _); rw [arrV_size]; exact i1) rfl rfl hd fin
  | some v =>
    obtain ⟨fs, hv⟩ := hr9 v rfl
    obtain ⟨r', hr', cellV, g1, g2, g3, -⟩ := (hR.2.2.2 v _ hv).2
    have hcls := (hK.1.1 3 _ rfl).2
    obtain ⟨kA, comp, k1, k2, k3, -⟩ := (hK.1.2 3 _ rfl).2
    have hcomp : comp = D.1 3 := Option.some.inj (k3.symm.trans hcls.1)
    subst hcomp
    obtain ⟨kC, hkC, -⟩ := hcls.2
    exact W.aast hx hb hc (fun q h => by cases h) (fun h => by cases h) k1 k2 rfl hkC ⟨fun q => i1 (Or.inl q), by show _ < (arrV _ _ _).slots.size; rw [arrV_size]; exact hlt⟩ g1 (fun q h => by rw [g3] at h; cases h) (by rw [g2]; exact hkC) (by rw [g2]; exact va_assign hcls) rfl rfl hd fin
theorem v_aast4 (g : zG F X y cc nL ret rm cn) {a n : Nat} {f : Nat → Option Nat} {i : Int32} {r : Option Nat} (ha : h.1 a = some (aQ 4 n f)) (hr9 : ∀ v, r = some v → ∃ fs, h.1 v = some (oB 1 fs)) (j : Nat) (hi : i = nI j) (hj : j < n) (hn : n ≤ 1000000) (hd : decode cc pc = .ok (.aastore, 1)) (kk : zV F X (z_s h a (aQ 4 n (va_up f j r))) (pc + 1) lv st) : zV F X h pc lv (va_rf r :: .int i :: .ref a :: st) := by
  obtain ⟨l, D, dA, H0⟩ := F
  obtain ⟨p, e, R, s, m, args, below, meth, c, Q, nL'⟩ := X
  obtain ⟨rfl, rfl, hx, hb, hml, hr, hlk, hown, hnm, hts, hK, hc0, hn0⟩ := g
  intro H locs ls k9 n9 hR hL hl
  obtain ⟨i1, i2⟩ := z_in hi hj hn
  have hc : H[a]? = some (vp_cell _ _) := hR.P ha 0 _ rfl
  have fin : ∀ H1 : Heap, H1[a]? = some ((vp_cell (dA 4) (n, .inr (.inr (.inr (.inr f))))).setSlot i.toNatClampNeg (va_rf r)) → H1.size = H.size → (∀ q, q ≠ a → H1[q]? = H[q]?) → W p l e R s m args below meth c H1 (locs ++ [⟨a, i.toNatClampNeg⟩]) k9 n9 Q (F0 m (pc + 1) ls st) := by
    intro H1 e1 e2 e3
    rw [i2] at e1 ⊢
    have e4 : H1[a]? = some (vp_cell (dA 4) (n, .inr (.inr (.inr (.inr (va_up f j r)))))) := by
      rw [e1, vp_cell_q, vp_cell_q, arrV_store]
      congr 2
      funext q
      by_cases hq : q = j
      · subst hq
        simp [updV, va_up]
      · simp [updV, va_up, hq]
    exact kk H1 _ ls k9 n9 (hR.put ha hc e4 e2 e3 (by rw [vp_cell_q, vp_cell_q, arrV_size, arrV_size]) e4) (zL_app hL (hR.ge ha)) hl
  have hlt : i.toNatClampNeg < n := by omega
  cases r with
  | none => exact va_WaastN (C := RX1) hx hb hc ((hK.1.2 4 _ rfl).1 n (fun j => va_rf (f j))) (fun h => by cases h) (by show ¬ (i < 0 ∨ (arrV _ _ _).slots.size ≤ _); rw [arrV_size]; exact i1) rfl rfl hd fin
  | some v =>
    obtain ⟨fs, hv⟩ := hr9 v rfl
    obtain ⟨r', hr', cellV, g1, g2, g3, -⟩ := (hR.2.2.2 v _ hv).2
    have hcls := (hK.1.1 1 _ rfl).2
    obtain ⟨kA, comp, k1, k2, k3, -⟩ := (hK.1.2 4 _ rfl).2
    have hcomp : comp = D.1 1 := Option.some.inj (k3.symm.trans hcls.1)
    subst hcomp
    obtain ⟨kC, hkC, -⟩ := hcls.2
    exact W.aast hx hb hc (fun q h => by cases h) (fun h => by cases h) k1 k2 rfl hkC ⟨fun q => i1 (Or.inl q), by show _ < (arrV _ _ _).slots.size; rw [arrV_size]; exact hlt⟩ g1 (fun q h => by rw [g3] at h; cases h) (by rw [g2]; exact hkC) (by rw [g2]; exact va_assign hcls) rfl rfl hd fin
theorem v_aast5 (g : zG F X y cc nL ret rm cn) {a n : Nat} {f : Nat → Option Nat} {i : Int32} {r : Option Nat} (ha : h.1 a = some (aQ 5 n f)) (hr9 : ∀ v, r = some v → ∃ fs, h.1 v = some (oB 2 fs)) (j : Nat) (hi : i = nI j) (hj : j < n) (hn : n ≤ 1000000) (hd : decode cc pc = .ok (.aastore, 1)) (kk : zV F X (z_s h a (aQ 5 n (va_up f j r))) (pc + 1) lv st) : zV F X h pc lv (va_rf r :: .int i :: .ref a :: st) := by
  obtain ⟨l, D, dA, H0⟩ := F
  obtain ⟨p, e, R, s, m, args, below, meth, c, Q, nL'⟩ := X
  obtain ⟨rfl, rfl, hx, hb, hml, hr, hlk, hown, hnm, hts, hK, hc0, hn0⟩ := g
  intro H locs ls k9 n9 hR hL hl
  obtain ⟨i1, i2⟩ := z_in hi hj hn
  have hc : H[a]? = some (vp_cell _ _) := hR.P ha 0 _ rfl
  have fin : ∀ H1 : Heap, H1[a]? = some ((vp_cell (dA 5) (n, .inr (.inr (.inr (.inr f))))).setSlot i.toNatClampNeg (va_rf r)) → H1.size = H.size → (∀ q, q ≠ a → H1[q]? = H[q]?) → W p l e R s m args below meth c H1 (locs ++ [⟨a, i.toNatClampNeg⟩]) k9 n9 Q (F0 m (pc + 1) ls st) := by
    intro H1 e1 e2 e3
    rw [i2] at e1 ⊢
    have e4 : H1[a]? = some (vp_cell (dA 5) (n, .inr (.inr (.inr (.inr (va_up f j r)))))) := by
      rw [e1, vp_cell_q, vp_cell_q, arrV_store]
      congr 2
      funext q
      by_cases hq : q = j
      · subst hq
        simp [updV, va_up]
      · simp [updV, va_up, hq]
    exact kk H1 _ ls k9 n9 (hR.put ha hc e4 e2 e3 (by rw [vp_cell_q, vp_cell_q, arrV_size, arrV_size]) e4) (zL_app hL (hR.ge ha)) hl
  have hlt : i.toNatClampNeg < n := by omega
  cases r with
  | none => exact va_WaastN (C := RX2) hx hb hc ((hK.1.2 5 _ rfl).1 n (fun j => va_rf (f j))) (fun h => by cases h) (by show ¬ (i < 0 ∨ (arrV _ _ _).slots.size ≤ _); rw [arrV_size]; exact i1) rfl rfl hd fin
  | some v =>
    obtain ⟨fs, hv⟩ := hr9 v rfl
    obtain ⟨r', hr', cellV, g1, g2, g3, -⟩ := (hR.2.2.2 v _ hv).2
    have hcls := (hK.1.1 2 _ rfl).2
    obtain ⟨kA, comp, k1, k2, k3, -⟩ := (hK.1.2 5 _ rfl).2
    have hcomp : comp = D.1 2 := Option.some.inj (k3.symm.trans hcls.1)
    subst hcomp
    obtain ⟨kC, hkC, -⟩ := hcls.2
    exact W.aast hx hb hc (fun q h => by cases h) (fun h => by cases h) k1 k2 rfl hkC ⟨fun q => i1 (Or.inl q), by show _ < (arrV _ _ _).slots.size; rw [arrV_size]; exact hlt⟩ g1 (fun q h => by rw [g3] at h; cases h) (by rw [g2]; exact hkC) (by rw [g2]; exact va_assign hcls) rfl rfl hd fin
theorem v_alen (g : zG F X y cc nL ret rm cn) {a k : Nat} {x : vp_A} (ha : h.1 a = some (.inl (k, x))) (hk : k < 6) (hd : decode cc pc = .ok (.arraylength, 1)) (kk : zV F X h (pc + 1) lv (.int (nI x.1) :: st)) : zV F X h pc lv (.ref a :: st) := by
  obtain ⟨l, D, dA, H0⟩ := F
  obtain ⟨p, e, R, s, m, args, below, meth, c, Q, nL'⟩ := X
  obtain ⟨rfl, rfl, hx, hb, hml, hr, hlk, hown, hnm, hts, hK, hc0, hn0⟩ := g
  intro H locs ls k9 n9 hR hL hl
  have hz : ∃ ty, (z_ty dA)[k]? = some (dA k, ty) := by
    rcases (show k = 0 ∨ k = 1 ∨ k = 2 ∨ k = 3 ∨ k = 4 ∨ k = 5 by omega) with rfl | rfl | rfl | rfl | rfl | rfl <;> exact ⟨_, rfl⟩
  obtain ⟨ty, hz⟩ := hz
  exact va_alen hx hb hK.1 (hR.P ha) 0 k rfl hz rfl hd (kk H locs ls k9 n9 hR hL hl)
theorem v_new (g : zG F X y cc nL ret rm cn) {idx ci N : Nat} {fs : List Value} (L : zNL y.cls idx ci fs N) (hcs : h.2.1 + 1 ≤ cn.1 + rm.cells ∧ h.2.2 + N ≤ cn.2 + rm.slots) (hd : decode cc pc = .ok (.new idx, 3)) (kk : ∀ q : Nat, h.1 q = none → zV F X (z_n h q (oB ci fs) N) (pc + 3) lv (.ref q :: st)) : zV F X h pc lv st := by
  obtain ⟨l, D, dA, H0⟩ := F
  obtain ⟨p, e, R, s, m, args, below, meth, c, Q, nL'⟩ := X
  obtain ⟨rfl, rfl, hx, hb, hml, hr, hlk, hown, hnm, hts, hK, hc0, hn0⟩ := g
  intro H locs ls k9 n9 hR hL hl
  obtain ⟨C, T, ty, hc, hin, c3, c4, c5, hty, hfs⟩ := L
  have hKn := hK.1.1 ci _ hc
  refine zW_tight H0.size (by omega) (fun t1 t2 => ?_)
  refine W.newc hx hb hown (hts _ c3) (hts _ c4) (hts _ c5) rfl hd (by have := hR.1; omega) (by have := hR.2.1; omega) fun cC kC f1 f2 f3 f4 => ?_
  have e9 : cC = D.1 ci := Option.some.inj (f1.symm.trans hKn.2.1)
  subst e9
  generalize hH1 : H.push ({ cls := D.1 ci, slots := kC.instanceTypes.map defaultValue, vm := .none } : Cell) = H1
  have z1 : H1.size = H.size + 1 := by rw [← hH1, Array.size_push]
  have e1 : H1[H.size]? = some ({ cls := D.1 ci, slots := kC.instanceTypes.map defaultValue, vm := .none } : Cell) := by rw [← hH1, Array.getElem?_push_size]
  have o1 : ∀ q : Nat, q < H.size → H1[q]? = H[q]? := fun q hq => by rw [← hH1, Array.getElem?_push, if_neg (Nat.ne_of_lt hq)]
  exact kk H.size hR.fresh H1 _ ls _ _ (hR.push e1 z1 o1 (by simp [f4]) ⟨_, hc, (u_born ty hts hin hKn f2 e1 hty).to hfs⟩) hL hl
theorem v_newI (g : zG F X y cc nL ret rm cn) {i : Int32} (N : Nat) (hi : i = nI N) (hN : N ≤ 1000000) (hw : Cond.arrayClass .int ∈ zW) (hcs : h.2.1 + 1 ≤ cn.1 + rm.cells ∧ h.2.2 + N ≤ cn.2 + rm.slots) (hd : decode cc pc = .ok (.newarray .int, 2)) (kk : ∀ q : Nat, h.1 q = none → zV F X (z_n h q (aI N (fun _ => 0)) N) (pc + 2) lv (.ref q :: st)) : zV F X h pc lv (.int i :: st) := by
  obtain ⟨l, D, dA, H0⟩ := F
  obtain ⟨p, e, R, s, m, args, below, meth, c, Q, nL'⟩ := X
  obtain ⟨rfl, rfl, hx, hb, hml, hr, hlk, hown, hnm, hts, hK, hc0, hn0⟩ := g
  intro H locs ls k9 n9 hR hL hl
  subst hi
  refine zW_tight H0.size (by omega) (fun t1 t2 => ?_)
  refine va_newaK (atype := .int) (N := N) hx hb (hts _ hw) rfl hd rfl (nI_pos (by omega)) (nI_clamp (by omega)) (by show N * _ ≤ _; simp only [componentBytes, newarray.typeOf]; omega) (by have := hR.1; omega) (by have := hR.2.1; omega) rfl fun H1 cA e1 z1 o1 hAr hNm => ?_
  have e9 : cA = dA 0 := Option.some.inj (hNm.symm.trans (hK.1.2 0 _ rfl).2)
  subst e9
  exact kk H.size hR.fresh H1 _ ls _ _ (hR.push (x1 := aI N (fun _ => 0)) e1 z1 o1 (by rw [arrV_size]) (by show H1[H.size]? = some (vp_cell _ _); rw [vp_cell_i]; exact e1)) hL hl
theorem v_newJ (g : zG F X y cc nL ret rm cn) {i : Int32} (N : Nat) (hi : i = nI N) (hN : N ≤ 1000000) (hw : Cond.arrayClass .long ∈ zW) (hcs : h.2.1 + 1 ≤ cn.1 + rm.cells ∧ h.2.2 + N ≤ cn.2 + rm.slots) (hd : decode cc pc = .ok (.newarray .long, 2)) (kk : ∀ q : Nat, h.1 q = none → zV F X (z_n h q (aJ N (fun _ => 0)) N) (pc + 2) lv (.ref q :: st)) : zV F X h pc lv (.int i :: st) := by
  obtain ⟨l, D, dA, H0⟩ := F
  obtain ⟨p, e, R, s, m, args, below, meth, c, Q, nL'⟩ := X
  obtain ⟨rfl, rfl, hx, hb, hml, hr, hlk, hown, hnm, hts, hK, hc0, hn0⟩ := g
  intro H locs ls k9 n9 hR hL hl
  subst hi
  refine zW_tight H0.size (by omega) (fun t1 t2 => ?_)
  refine va_newaK (atype := .long) (N := N) hx hb (hts _ hw) rfl hd rfl (nI_pos (by omega)) (nI_clamp (by omega)) (by show N * _ ≤ _; simp only [componentBytes, newarray.typeOf]; omega) (by have := hR.1; omega) (by have := hR.2.1; omega) rfl fun H1 cA e1 z1 o1 hAr hNm => ?_
  have e9 : cA = dA 1 := Option.some.inj (hNm.symm.trans (hK.1.2 1 _ rfl).2)
  subst e9
  exact kk H.size hR.fresh H1 _ ls _ _ (hR.push (x1 := aJ N (fun _ => 0)) e1 z1 o1 (by rw [arrV_size]) (by show H1[H.size]? = some (vp_cell _ _); rw [vp_cell_l]; exact e1)) hL hl
theorem v_newZ (g : zG F X y cc nL ret rm cn) {i : Int32} (N : Nat) (hi : i = nI N) (hN : N ≤ 1000000) (hw : Cond.arrayClass .boolean ∈ zW) (hcs : h.2.1 + 1 ≤ cn.1 + rm.cells ∧ h.2.2 + N ≤ cn.2 + rm.slots) (hd : decode cc pc = .ok (.newarray .boolean, 2)) (kk : ∀ q : Nat, h.1 q = none → zV F X (z_n h q (aZ N (fun _ => 0)) N) (pc + 2) lv (.ref q :: st)) : zV F X h pc lv (.int i :: st) := by
  obtain ⟨l, D, dA, H0⟩ := F
  obtain ⟨p, e, R, s, m, args, below, meth, c, Q, nL'⟩ := X
  obtain ⟨rfl, rfl, hx, hb, hml, hr, hlk, hown, hnm, hts, hK, hc0, hn0⟩ := g
  intro H locs ls k9 n9 hR hL hl
  subst hi
  refine zW_tight H0.size (by omega) (fun t1 t2 => ?_)
  refine va_newaK (atype := .boolean) (N := N) hx hb (hts _ hw) rfl hd rfl (nI_pos (by omega)) (nI_clamp (by omega)) (by show N * _ ≤ _; simp only [componentBytes, newarray.typeOf]; omega) (by have := hR.1; omega) (by have := hR.2.1; omega) rfl fun H1 cA e1 z1 o1 hAr hNm => ?_
  have e9 : cA = dA 2 := Option.some.inj (hNm.symm.trans (hK.1.2 2 _ rfl).2)
  subst e9
  exact kk H.size hR.fresh H1 _ ls _ _ (hR.push (x1 := aZ N (fun _ => 0)) e1 z1 o1 (by rw [arrV_size]) (by show H1[H.size]? = some (vp_cell _ _); rw [vp_cell_i]; exact e1)) hL hl
theorem v_newQ3 (g : zG F X y cc nL ret rm cn) {i : Int32} {idx : Nat} (N : Nat) (hi : i = nI N) (hN : N ≤ 1000000) (hw : Cond.classLink y.cls idx RX3 ∈ zW) (hcs : h.2.1 + 1 ≤ cn.1 + rm.cells ∧ h.2.2 + N ≤ cn.2 + rm.slots) (hd : decode cc pc = .ok (.anewarray idx, 3)) (kk : ∀ q : Nat, h.1 q = none → zV F X (z_n h q (aQ 3 N (fun _ => none)) N) (pc + 3) lv (.ref q :: st)) : zV F X h pc lv (.int i :: st) := by
  obtain ⟨l, D, dA, H0⟩ := F
  obtain ⟨p, e, R, s, m, args, below, meth, c, Q, nL'⟩ := X
  obtain ⟨rfl, rfl, hx, hb, hml, hr, hlk, hown, hnm, hts, hK, hc0, hn0⟩ := g
  intro H locs ls k9 n9 hR hL hl
  subst hi
  have hcl : (nI N).toNatClampNeg = N := nI_clamp (by omega)
  refine zW_tight H0.size (by omega) (fun t1 t2 => ?_)
  refine W.anew hx hb hown (hts _ hw) (va_AO.use hK.2.1.1) rfl hd rfl (nI_pos (by omega)) (by rw [hcl]; omega) (by have := hR.1; omega) (by rw [hcl]; have := hR.2.1; omega) fun cA kA comp f1 f2 f3 f4 => ?_
  rw [hcl]
  have e9 : cA = dA 3 := by
    obtain ⟨_, _, _, _, _, k4⟩ := (hK.1.2 3 _ rfl).2
    exact Option.some.inj (f1.symm.trans k4)
  subst e9
  generalize hH1 : H.push ({ cls := dA 3, slots := Array.replicate N .null, vm := .none } : Cell) = H1
  have z1 : H1.size = H.size + 1 := by rw [← hH1, Array.size_push]
  have e1 : H1[H.size]? = some (arrV (dA 3) N (fun _ => .null)) := by rw [← hH1, Array.getElem?_push_size, ← arrV_new]
  have o1 : ∀ q : Nat, q < H.size → H1[q]? = H[q]? := fun q hq => by rw [← hH1, Array.getElem?_push, if_neg (Nat.ne_of_lt hq)]
  exact kk H.size hR.fresh H1 _ ls _ _ (hR.push (x1 := aQ 3 N (fun _ => none)) e1 z1 o1 (by rw [arrV_size]) (by show H1[H.size]? = some (vp_cell _ _); rw [vp_cell_q]; exact e1)) hL hl
theorem v_newQ4 (g : zG F X y cc nL ret rm cn) {i : Int32} {idx : Nat} (N : Nat) (hi : i = nI N) (hN : N ≤ 1000000) (hw : Cond.classLink y.cls idx RX1 ∈ zW) (hcs : h.2.1 + 1 ≤ cn.1 + rm.cells ∧ h.2.2 + N ≤ cn.2 + rm.slots) (hd : decode cc pc = .ok (.anewarray idx, 3)) (kk : ∀ q : Nat, h.1 q = none → zV F X (z_n h q (aQ 4 N (fun _ => none)) N) (pc + 3) lv (.ref q :: st)) : zV F X h pc lv (.int i :: st) := by
  obtain ⟨l, D, dA, H0⟩ := F
  obtain ⟨p, e, R, s, m, args, below, meth, c, Q, nL'⟩ := X
  obtain ⟨rfl, rfl, hx, hb, hml, hr, hlk, hown, hnm, hts, hK, hc0, hn0⟩ := g
  intro H locs ls k9 n9 hR hL hl
  subst hi
  have hcl : (nI N).toNatClampNeg = N := nI_clamp (by omega)
  refine zW_tight H0.size (by omega) (fun t1 t2 => ?_)
  refine W.anew hx hb hown (hts _ hw) (va_AO.use hK.2.1.2.1) rfl hd rfl (nI_pos (by omega)) (by rw [hcl]; omega) (by have := hR.1; omega) (by rw [hcl]; have := hR.2.1; omega) fun cA kA comp f1 f2 f3 f4 => ?_
  rw [hcl]
  have e9 : cA = dA 4 := by
    obtain ⟨_, _, _, _, _, k4⟩ := (hK.1.2 4 _ rfl).2
    exact Option.some.inj (f1.symm.trans k4)
  subst e9
  generalize hH1 : H.push ({ cls := dA 4, slots := Array.replicate N .null, vm := .none } : Cell) = H1
  have z1 : H1.size = H.size + 1 := by rw [← hH1, Array.size_push]
  have e1 : H1[H.size]? = some (arrV (dA 4) N (fun _ => .null)) := by rw [← hH1, Array.getElem?_push_size, ← arrV_new]
  have o1 : ∀ q : Nat, q < H.size → H1[q]? = H[q]? := fun q hq => by rw [← hH1, Array.getElem?_push, if_neg (Nat.ne_of_lt hq)]
  exact kk H.size hR.fresh H1 _ ls _ _ (hR.push (x1 := aQ 4 N (fun _ => none)) e1 z1 o1 (by rw [arrV_size]) (by show H1[H.size]? = some (vp_cell _ _); rw [vp_cell_q]; exact e1)) hL hl
theorem v_newQ5 (g : zG F X y cc nL ret rm cn) {i : Int32} {idx : Nat} (N : Nat) (hi : i = nI N) (hN : N ≤ 1000000) (hw : Cond.classLink y.cls idx RX2 ∈ zW) (hcs : h.2.1 + 1 ≤ cn.1 + rm.cells ∧ h.2.2 + N ≤ cn.2 + rm.slots) (hd : decode cc pc = .ok (.anewarray idx, 3)) (kk : ∀ q : Nat, h.1 q = none → zV F X (z_n h q (aQ 5 N (fun _ => none)) N) (pc + 3) lv (.ref q :: st)) : zV F X h pc lv (.int i :: st) := by
  obtain ⟨l, D, dA, H0⟩ := F
  obtain ⟨p, e, R, s, m, args, below, meth, c, Q, nL'⟩ := X
  obtain ⟨rfl, rfl, hx, hb, hml, hr, hlk, hown, hnm, hts, hK, hc0, hn0⟩ := g
  intro H locs ls k9 n9 hR hL hl
  subst hi
  have hcl : (nI N).toNatClampNeg = N := nI_clamp (by omega)
  refine zW_tight H0.size (by omega) (fun t1 t2 => ?_)
  refine W.anew hx hb hown (hts _ hw) (va_AO.use hK.2.1.2.2) rfl hd rfl (nI_pos (by omega)) (by rw [hcl]; omega) (by have := hR.1; omega) (by rw [hcl]; have := hR.2.1; omega) fun cA kA comp f1 f2 f3 f4 => ?_
  rw [hcl]
  have e9 : cA = dA 5 := by
    obtain ⟨_, _, _, _, _, k4⟩ := (hK.1.2 5 _ rfl).2
    exact Option.some.inj (f1.symm.trans k4)
  subst e9
  generalize hH1 : H.push ({ cls := dA 5, slots := Array.replicate N .null, vm := .none } : Cell) = H1
  have z1 : H1.size = H.size + 1 := by rw [← hH1, Array.size_push]
  have e1 : H1[H.size]? = some (arrV (dA 5) N (fun _ => .null)) := by rw [← hH1, Array.getElem?_push_size, ← arrV_new]
  have o1 : ∀ q : Nat, q < H.size → H1[q]? = H[q]? := fun q hq => by rw [← hH1, Array.getElem?_push, if_neg (Nat.ne_of_lt hq)]
  exact kk H.size hR.fresh H1 _ ls _ _ (hR.push (x1 := aQ 5 N (fun _ => none)) e1 z1 o1 (by rw [arrV_size]) (by show H1[H.size]? = some (vp_cell _ _); rw [vp_cell_q]; exact e1)) hL hl
end VH
