/-! Math.max, Math.min -/
section VMM
variable {F : zF} {X : zX} {y : MethodName} {cc : ByteArray} {nL : Nat} {ret : Option FieldType} {rm : Room} {cn : Nat × Nat} {h : zH} {pc : Nat} {lv lv' : zLv} {st st' : List Value}
theorem v_mmax (g : zG F X y cc nL ret rm cn) {idx : Nat} {a b : Int32} (hw : Cond.methodLink y.cls idx yJ9_max_7cf53 ∈ zW) (hd : decode cc pc = .ok (.invokestatic idx, 3)) (hRm : 1 ≤ rm.frames ∧ 30 ≤ rm.locals) (hw8 : (st.map fun v => v.category).sum ≤ 8) (hcs : h.2.1 ≤ cn.1 + rm.cells ∧ h.2.2 ≤ cn.2 + rm.slots) (kk : zV F X h (pc + 3) lv (.int (if a < b then b else a) :: st)) : zV F X h pc lv (.int b :: .int a :: st) := by
  obtain ⟨l, D, dA, H0⟩ := F
  obtain ⟨p, e, R, s, m, args, below, meth, c, Q, nL'⟩ := X
  obtain ⟨rfl, rfl, hx, hb, hml, hr, hlk, hown, hnm, hts, hK, hc0, hn0⟩ := g
  intro H locs ls k9 n9 hR hL hl
  refine zW_tight H0.size (by omega) (fun t1 t2 => ?_)
  exact va_mmax hx hb (hml.trans hl.1.symm) hown (hts _ hw) (hts _ ms_J9_max_7cf53) (hts _ mi_J9_max_7cf53) (hts _ mc_J9_max_7cf53) hRm.1 (by omega) (by have := hR.1; omega) (by have := hR.2.1; omega) hd (kk H locs ls _ _ hR hL hl)
theorem v_mmin (g : zG F X y cc nL ret rm cn) {idx : Nat} {a b : Int32} (hw : Cond.methodLink y.cls idx yJ9_min_7cf53 ∈ zW) (hd : decode cc pc = .ok (.invokestatic idx, 3)) (hRm : 1 ≤ rm.frames ∧ 30 ≤ rm.locals) (hw8 : (st.map fun v => v.category).sum ≤ 8) (hcs : h.2.1 ≤ cn.1 + rm.cells ∧ h.2.2 ≤ cn.2 + rm.slots) (kk : zV F X h (pc + 3) lv (.int (if b < a then b else a) :: st)) : zV F X h pc lv (.int b :: .int a :: st) := by
  obtain ⟨l, D, dA, H0⟩ := F
  obtain ⟨p, e, R, s, m, args, below, meth, c, Q, nL'⟩ := X
  obtain ⟨rfl, rfl, hx, hb, hml, hr, hlk, hown, hnm, hts, hK, hc0, hn0⟩ := g
  intro H locs ls k9 n9 hR hL hl
  refine zW_tight H0.size (by omega) (fun t1 t2 => ?_)
  exact va_mmin hx hb (hml.trans hl.1.symm) hown (hts _ hw) (hts _ ms_J9_min_7cf53) (hts _ mi_J9_min_7cf53) (hts _ mc_J9_min_7cf53) hRm.1 (by omega) (by have := hR.1; omega) (by have := hR.2.1; omega) hd (kk H locs ls _ _ hR hL hl)
theorem v_mminL (g : zG F X y cc nL ret rm cn) {idx : Nat} {a b : Int64} (hw : Cond.methodLink y.cls idx yJ9_min_f86c9 ∈ zW) (hd : decode cc pc = .ok (.invokestatic idx, 3)) (hRm : 1 ≤ rm.frames ∧ 30 ≤ rm.locals) (hw8 : (st.map fun v => v.category).sum ≤ 8) (hcs : h.2.1 ≤ cn.1 + rm.cells ∧ h.2.2 ≤ cn.2 + rm.slots) (kk : zV F X h (pc + 3) lv (.long (if b < a then b else a) :: st)) : zV F X h pc lv (.long b :: .long a :: st) := by
  obtain ⟨l, D, dA, H0⟩ := F
  obtain ⟨p, e, R, s, m, args, below, meth, c, Q, nL'⟩ := X
  obtain ⟨rfl, rfl, hx, hb, hml, hr, hlk, hown, hnm, hts, hK, hc0, hn0⟩ := g
  intro H locs ls k9 n9 hR hL hl
  refine zW_tight H0.size (by omega) (fun t1 t2 => ?_)
  exact va_mmin_long hx hb (hml.trans hl.1.symm) hown (hts _ hw) (hts _ ms_J9_min_f86c9) (hts _ mi_J9_min_f86c9) (hts _ mc_J9_min_f86c9) hRm.1 (by omega) (by have := hR.1; omega) (by have := hR.2.1; omega) hd (kk H locs ls _ _ hR hL hl)
end VMM
