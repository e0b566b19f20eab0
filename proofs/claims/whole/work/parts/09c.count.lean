/-! the room, by what was made so far: A cells of B slots since the start -/
theorem zcsn {cn : Nat × Nat} {h : zH} {rm rm2 : Room} (A B : Nat) (h1 : h.2.1 = cn.1 + A) (h2 : h.2.2 = cn.2 + B) (h3 : A + rm2.cells ≤ rm.cells) (h4 : B + rm2.slots ≤ rm.slots) : h.2.1 + rm2.cells ≤ cn.1 + rm.cells ∧ h.2.2 + rm2.slots ≤ cn.2 + rm.slots := ⟨by omega, by omega⟩
theorem zcsk {cn : Nat × Nat} {h : zH} {rm : Room} (A B k n : Nat) (h1 : h.2.1 = cn.1 + A) (h2 : h.2.2 = cn.2 + B) (h3 : A + k ≤ rm.cells) (h4 : B + n ≤ rm.slots) : h.2.1 + k ≤ cn.1 + rm.cells ∧ h.2.2 + n ≤ cn.2 + rm.slots := ⟨by omega, by omega⟩
theorem zcrn {cn : Nat × Nat} {h : zH} {rm : Room} (A B : Nat) (h1 : h.2.1 = cn.1 + A) (h2 : h.2.2 = cn.2 + B) (h3 : A ≤ rm.cells) (h4 : B ≤ rm.slots) : h.2.1 ≤ cn.1 + rm.cells ∧ h.2.2 ≤ cn.2 + rm.slots := ⟨by omega, by omega⟩
theorem zcn {h h' : zH} {a k A B : Nat} {x : zE} {cn : Nat × Nat} (e : h' = z_n h a x k) (hc : h.2.1 = cn.1 + A ∧ h.2.2 = cn.2 + B) : h'.2.1 = cn.1 + (A + 1) ∧ h'.2.2 = cn.2 + (B + k) := by
  subst e
  obtain ⟨h1, h2⟩ := hc
  exact ⟨by show h.2.1 + 1 = _; omega, by show h.2.2 + k = _; omega⟩
theorem zcs {h h' : zH} {a A B : Nat} {x : zE} {cn : Nat × Nat} (e : h' = z_s h a x) (hc : h.2.1 = cn.1 + A ∧ h.2.2 = cn.2 + B) : h'.2.1 = cn.1 + A ∧ h'.2.2 = cn.2 + B := by
  subst e
  exact hc
