/-! rows of the judgement: branches, constants, divisions -/
section VR
variable {F : zF} {X : zX} {y : MethodName} {cc : ByteArray} {nL : Nat} {ret : Option FieldType} {rm : Room} {cn : Nat × Nat} {h : zH} {pc : Nat} {lv lv' : zLv} {st st' : List Value}
theorem v_if_eq (g : zG F X y cc nL ret rm cn) {x : Int32} {off : Int} {tgt : Nat} (hd : decode cc pc = .ok (.ifCond .eq off, 3)) (ht : (pc : Int) + off = (tgt : Int)) (kt : x = 0 → zV F X h tgt lv st) (kf : ¬ x = 0 → zV F X h (pc + 3) lv st) : zV F X h pc lv (.int x :: st) := by
  obtain ⟨l, D, dA, H0⟩ := F
  obtain ⟨p, e, R, s, m, args, below, meth, c, Q, nL'⟩ := X
  obtain ⟨rfl, rfl, hx, hb, hml, hr, hlk, hown, hnm, hts, hK, hc0, hn0⟩ := g
  intro H locs ls k9 n9 hR hL hl
  exact lv_if_eq hx hb hd ht (fun q => kt q H locs ls k9 n9 hR hL hl) (fun q => kf q H locs ls k9 n9 hR hL hl)
theorem v_if_ne (g : zG F X y cc nL ret rm cn) {x : Int32} {off : Int} {tgt : Nat} (hd : decode cc pc = .ok (.ifCond .ne off, 3)) (ht : (pc : Int) + off = (tgt : Int)) (kt : ¬ x = 0 → zV F X h tgt lv st) (kf : x = 0 → zV F X h (pc + 3) lv st) : zV F X h pc lv (.int x :: st) := by
  obtain ⟨l, D, dA, H0⟩ := F
  obtain ⟨p, e, R, s, m, args, below, meth, c, Q, nL'⟩ := X
  obtain ⟨rfl, rfl, hx, hb, hml, hr, hlk, hown, hnm, hts, hK, hc0, hn0⟩ := g
  intro H locs ls k9 n9 hR hL hl
  exact lv_if_ne hx hb hd ht (fun q => kt q H locs ls k9 n9 hR hL hl) (fun q => kf q H locs ls k9 n9 hR hL hl)
theorem v_if_lt (g : zG F X y cc nL ret rm cn) {x : Int32} {off : Int} {tgt : Nat} (hd : decode cc pc = .ok (.ifCond .lt off, 3)) (ht : (pc : Int) + off = (tgt : Int)) (kt : x < 0 → zV F X h tgt lv st) (kf : ¬ x < 0 → zV F X h (pc + 3) lv st) : zV F X h pc lv (.int x :: st) := by
  obtain ⟨l, D, dA, H0⟩ := F
  obtain ⟨p, e, R, s, m, args, below, meth, c, Q, nL'⟩ := X
  obtain ⟨rfl, rfl, hx, hb, hml, hr, hlk, hown, hnm, hts, hK, hc0, hn0⟩ := g
  intro H locs ls k9 n9 hR hL hl
  exact lv_if_lt hx hb hd ht (fun q => kt q H locs ls k9 n9 hR hL hl) (fun q => kf q H locs ls k9 n9 hR hL hl)
theorem v_if_ge (g : zG F X y cc nL ret rm cn) {x : Int32} {off : Int} {tgt : Nat} (hd : decode cc pc = .ok (.ifCond .ge off, 3)) (ht : (pc : Int) + off = (tgt : Int)) (kt : 0 ≤ x → zV F X h tgt lv st) (kf : ¬ 0 ≤ x → zV F X h (pc + 3) lv st) : zV F X h pc lv (.int x :: st) := by
  obtain ⟨l, D, dA, H0⟩ := F
  obtain ⟨p, e, R, s, m, args, below, meth, c, Q, nL'⟩ := X
  obtain ⟨rfl, rfl, hx, hb, hml, hr, hlk, hown, hnm, hts, hK, hc0, hn0⟩ := g
  intro H locs ls k9 n9 hR hL hl
  exact lv_if_ge hx hb hd ht (fun q => kt q H locs ls k9 n9 hR hL hl) (fun q => kf q H locs ls k9 n9 hR hL hl)
theorem v_if_gt (g : zG F X y cc nL ret rm cn) {x : Int32} {off : Int} {tgt : Nat} (hd : decode cc pc = .ok (.ifCond .gt off, 3)) (ht : (pc : Int) + off = (tgt : Int)) (kt : 0 < x → zV F X h tgt lv st) (kf : ¬ 0 < x → zV F X h (pc + 3) lv st) : zV F X h pc lv (.int x :: st) := by
  obtain ⟨l, D, dA, H0⟩ := F
  obtain ⟨p, e, R, s, m, args, below, meth, c, Q, nL'⟩ := X
  obtain ⟨rfl, rfl, hx, hb, hml, hr, hlk, hown, hnm, hts, hK, hc0, hn0⟩ := g
  intro H locs ls k9 n9 hR hL hl
  exact lv_if_gt hx hb hd ht (fun q => kt q H locs ls k9 n9 hR hL hl) (fun q => kf q H locs ls k9 n9 hR hL hl)
theorem v_if_le (g : zG F X y cc nL ret rm cn) {x : Int32} {off : Int} {tgt : Nat} (hd : decode cc pc = .ok (.ifCond .le off, 3)) (ht : (pc : Int) + off = (tgt : Int)) (kt : x ≤ 0 → zV F X h tgt lv st) (kf : ¬ x ≤ 0 → zV F X h (pc + 3) lv st) : zV F X h pc lv (.int x :: st) := by
  obtain ⟨l, D, dA, H0⟩ := F
  obtain ⟨p, e, R, s, m, args, below, meth, c, Q, nL'⟩ := X
  obtain ⟨rfl, rfl, hx, hb, hml, hr, hlk, hown, hnm, hts, hK, hc0, hn0⟩ := g
  intro H locs ls k9 n9 hR hL hl
  exact lv_if_le hx hb hd ht (fun q => kt q H locs ls k9 n9 hR hL hl) (fun q => kf q H locs ls k9 n9 hR hL hl)
theorem v_icmp_eq (g : zG F X y cc nL ret rm cn) {x z : Int32} {off : Int} {tgt : Nat} (hd : decode cc pc = .ok (.if_icmp .eq off, 3)) (ht : (pc : Int) + off = (tgt : Int)) (kt : x = z → zV F X h tgt lv st) (kf : ¬ x = z → zV F X h (pc + 3) lv st) : zV F X h pc lv (.int z :: .int x :: st) := by
  obtain ⟨l, D, dA, H0⟩ := F
  obtain ⟨p, e, R, s, m, args, below, meth, c, Q, nL'⟩ := X
  obtain ⟨rfl, rfl, hx, hb, hml, hr, hlk, hown, hnm, hts, hK, hc0, hn0⟩ := g
  intro H locs ls k9 n9 hR hL hl
  exact lv_icmp_eq hx hb hd ht (fun q => kt q H locs ls k9 n9 hR hL hl) (fun q => kf q H locs ls k9 n9 hR hL hl)
theorem v_icmp_ne (g : zG F X y cc nL ret rm cn) {x z : Int32} {off : Int} {tgt : Nat} (hd : decode cc pc = .ok (.if_icmp .ne off, 3)) (ht : (pc : Int) + off = (tgt : Int)) (kt : ¬ x = z → zV F X h tgt lv st) (kf : x = z → zV F X h (pc + 3) lv st) : zV F X h pc lv (.int z :: .int x :: st) := by
  obtain ⟨l, D, dA, H0⟩ := F
  obtain ⟨p, e, R, s, m, args, below, meth, c, Q, nL'⟩ := X
  obtain ⟨rfl, rfl, hx, hb, hml, hr, hlk, hown, hnm, hts, hK, hc0, hn0⟩ := g
  intro H locs ls k9 n9 hR hL hl
  exact lv_icmp_ne hx hb hd ht (fun q => kt q H locs ls k9 n9 hR hL hl) (fun q => kf q H locs ls k9 n9 hR hL hl)
theorem v_icmp_lt (g : zG F X y cc nL ret rm cn) {x z : Int32} {off : Int} {tgt : Nat} (hd : decode cc pc = .ok (.if_icmp .lt off, 3)) (ht : (pc : Int) + off = (tgt : Int)) (kt : x < z → zV F X h tgt lv st) (kf : ¬ x < z → zV F X h (pc + 3) lv st) : zV F X h pc lv (.int z :: .int x :: st) := by
  obtain ⟨l, D, dA, H0⟩ := F
  obtain ⟨p, e, R, s, m, args, below, meth, c, Q, nL'⟩ := X
  obtain ⟨rfl, rfl, hx, hb, hml, hr, hlk, hown, hnm, hts, hK, hc0, hn0⟩ := g
  intro H locs ls k9 n9 hR hL hl
  exact lv_icmp_lt hx hb hd ht (fun q => kt q H locs ls k9 n9 hR hL hl) (fun q => kf q H locs ls k9 n9 hR hL hl)
theorem v_icmp_ge (g : zG F X y cc nL ret rm cn) {x z : Int32} {off : Int} {tgt : Nat} (hd : decode cc pc = .ok (.if_icmp .ge off, 3)) (ht : (pc : Int) + off = (tgt : Int)) (kt : z ≤ x → zV F X h tgt lv st) (kf : ¬ z ≤ x → zV F X h (pc + 3) lv st) : zV F X h pc lv (.int z :: .int x :: st) := by
  obtain ⟨l, D, dA, H0⟩ := F
  obtain ⟨p, e, R, s, m, args, below, meth, c, Q, nL'⟩ := X
  obtain ⟨rfl, rfl, hx, hb, hml, hr, hlk, hown, hnm, hts, hK, hc0, hn0⟩ := g
  intro H locs ls k9 n9 hR hL hl
  exact lv_icmp_ge hx hb hd ht (fun q => kt q H locs ls k9 n9 hR hL hl) (fun q => kf q H locs ls k9 n9 hR hL hl)
theorem v_icmp_gt (g : zG F X y cc nL ret rm cn) {x z : Int32} {off : Int} {tgt : Nat} (hd : decode cc pc = .ok (.if_icmp .gt off, 3)) (ht : (pc : Int) + off = (tgt : Int)) (kt : z < x → zV F X h tgt lv st) (kf : ¬ z < x → zV F X h (pc + 3) lv st) : zV F X h pc lv (.int z :: .int x :: st) := by
  obtain ⟨l, D, dA, H0⟩ := F
  obtain ⟨p, e, R, s, m, args, below, meth, c, Q, nL'⟩ := X
  obtain ⟨rfl, rfl, hx, hb, hml, hr, hlk, hown, hnm, hts, hK, hc0, hn0⟩ := g
  intro H locs ls k9 n9 hR hL hl
  exact lv_icmp_gt hx hb hd ht (fun q => kt q H locs ls k9 n9 hR hL hl) (fun q => kf q H locs ls k9 n9 hR hL hl)
theorem v_icmp_le (g : zG F X y cc nL ret rm cn) {x z : Int32} {off : Int} {tgt : Nat} (hd : decode cc pc = .ok (.if_icmp .le off, 3)) (ht : (pc : Int) + off = (tgt : Int)) (kt : x ≤ z → zV F X h tgt lv st) (kf : ¬ x ≤ z → zV F X h (pc + 3) lv st) : zV F X h pc lv (.int z :: .int x :: st) := by
  obtain ⟨l, D, dA, H0⟩ := F
  obtain ⟨p, e, R, s, m, args, below, meth, c, Q, nL'⟩ := X
  obtain ⟨rfl, rfl, hx, hb, hml, hr, hlk, hown, hnm, hts, hK, hc0, hn0⟩ := g
  intro H locs ls k9 n9 hR hL hl
  exact lv_icmp_le hx hb hd ht (fun q => kt q H locs ls k9 n9 hR hL hl) (fun q => kf q H locs ls k9 n9 hR hL hl)
theorem v_goto (g : zG F X y cc nL ret rm cn) {off : Int} {tgt : Nat} (hd : decode cc pc = .ok (.goto off, 3)) (ht : (pc : Int) + off = (tgt : Int)) (kk : zV F X h tgt lv st) : zV F X h pc lv st := by
  obtain ⟨l, D, dA, H0⟩ := F
  obtain ⟨p, e, R, s, m, args, below, meth, c, Q, nL'⟩ := X
  obtain ⟨rfl, rfl, hx, hb, hml, hr, hlk, hown, hnm, hts, hK, hc0, hn0⟩ := g
  intro H locs ls k9 n9 hR hL hl
  exact lv_goto hx hb hd ht (kk H locs ls k9 n9 hR hL hl)
theorem v_ifnull (g : zG F X y cc nL ret rm cn) {r : Option Nat} {off : Int} {tgt : Nat} (hd : decode cc pc = .ok (.ifnull off, 3)) (ht : (pc : Int) + off = (tgt : Int)) (kt : r = none → zV F X h tgt lv st) (kf : ∀ a, r = some a → zV F X h (pc + 3) lv st) : zV F X h pc lv (va_rf r :: st) := by
  obtain ⟨l, D, dA, H0⟩ := F
  obtain ⟨p, e, R, s, m, args, below, meth, c, Q, nL'⟩ := X
  obtain ⟨rfl, rfl, hx, hb, hml, hr, hlk, hown, hnm, hts, hK, hc0, hn0⟩ := g
  intro H locs ls k9 n9 hR hL hl
  cases r with
  | none => exact lv_ifnullN hx hb hd ht (kt rfl H locs ls k9 n9 hR hL hl)
  | some a => exact lv_ifnull hx hb hd (kf a rfl H locs ls k9 n9 hR hL hl)
theorem v_ifnonnull (g : zG F X y cc nL ret rm cn) {r : Option Nat} {off : Int} {tgt : Nat} (hd : decode cc pc = .ok (.ifnonnull off, 3)) (ht : (pc : Int) + off = (tgt : Int)) (kt : ∀ a, r = some a → zV F X h tgt lv st) (kf : r = none → zV F X h (pc + 3) lv st) : zV F X h pc lv (va_rf r :: st) := by
  obtain ⟨l, D, dA, H0⟩ := F
  obtain ⟨p, e, R, s, m, args, below, meth, c, Q, nL'⟩ := X
  obtain ⟨rfl, rfl, hx, hb, hml, hr, hlk, hown, hnm, hts, hK, hc0, hn0⟩ := g
  intro H locs ls k9 n9 hR hL hl
  cases r with
  | none => exact lv_ifnonnullN hx hb hd (kf rfl H locs ls k9 n9 hR hL hl)
  | some a => exact lv_ifnonnull hx hb hd ht (kt a rfl H locs ls k9 n9 hR hL hl)
theorem v_ldc (g : zG F X y cc nL ret rm cn) {index : Nat} {v : Int32} (hw : Cond.constant y.cls index v ∈ zW) (hd : decode cc pc = .ok (.ldc index, 2)) (kk : zV F X h (pc + 2) lv (.int v :: st)) : zV F X h pc lv st := by
  obtain ⟨l, D, dA, H0⟩ := F
  obtain ⟨p, e, R, s, m, args, below, meth, c, Q, nL'⟩ := X
  obtain ⟨rfl, rfl, hx, hb, hml, hr, hlk, hown, hnm, hts, hK, hc0, hn0⟩ := g
  intro H locs ls k9 n9 hR hL hl
  exact lv_ldc hx hb hown (hts _ hw) hd (kk H locs ls k9 n9 hR hL hl)
theorem v_ldcw (g : zG F X y cc nL ret rm cn) {index : Nat} {v : Int32} (hw : Cond.constant y.cls index v ∈ zW) (hd : decode cc pc = .ok (.ldc_w index, 3)) (kk : zV F X h (pc + 3) lv (.int v :: st)) : zV F X h pc lv st := by
  obtain ⟨l, D, dA, H0⟩ := F
  obtain ⟨p, e, R, s, m, args, below, meth, c, Q, nL'⟩ := X
  obtain ⟨rfl, rfl, hx, hb, hml, hr, hlk, hown, hnm, hts, hK, hc0, hn0⟩ := g
  intro H locs ls k9 n9 hR hL hl
  exact lv_ldcw hx hb hown (hts _ hw) hd (kk H locs ls k9 n9 hR hL hl)
theorem v_ldc2 (g : zG F X y cc nL ret rm cn) {index : Nat} {v : Int64} (hw : Cond.constantLong y.cls index v ∈ zW) (hd : decode cc pc = .ok (.ldc2_w index, 3)) (kk : zV F X h (pc + 3) lv (.long v :: st)) : zV F X h pc lv st := by
  obtain ⟨l, D, dA, H0⟩ := F
  obtain ⟨p, e, R, s, m, args, below, meth, c, Q, nL'⟩ := X
  obtain ⟨rfl, rfl, hx, hb, hml, hr, hlk, hown, hnm, hts, hK, hc0, hn0⟩ := g
  intro H locs ls k9 n9 hR hL hl
  exact lv_ldc2 hx hb hown (hts _ hw) hd (kk H locs ls k9 n9 hR hL hl)
theorem v_table (g : zG F X y cc nL ret rm cn) {dflt lo hi : Int} {offs : Array Int} {len : Nat} {x : Int32} (hd : decode cc pc = .ok (.tableswitch dflt lo hi offs, len)) (ko : x.toInt < lo ∨ hi < x.toInt → zV F X h ((pc : Int) + dflt).toNat lv st) (h0 : 0 ≤ (pc : Int) + dflt) (h1 : ∀ j, ¬ (lo + (j : Nat) > hi) → ∃ off, offs[j]? = some off ∧ 0 ≤ (pc : Int) + off ∧ (x.toInt = lo + j → zV F X h ((pc : Int) + off).toNat lv st)) : zV F X h pc lv (.int x :: st) := by
  obtain ⟨l, D, dA, H0⟩ := F
  obtain ⟨p, e, R, s, m, args, below, meth, c, Q, nL'⟩ := X
  obtain ⟨rfl, rfl, hx, hb, hml, hr, hlk, hown, hnm, hts, hK, hc0, hn0⟩ := g
  intro H locs ls k9 n9 hR hL hl
  by_cases ho : x.toInt < lo ∨ hi < x.toInt
  · exact lv_tableOut hx hb hd ho (tgt := ((pc : Int) + dflt).toNat) (by omega) (ko ho H locs ls k9 n9 hR hL hl)
  · obtain ⟨off, e1, e2, e3⟩ := h1 (x.toInt - lo).toNat (by omega)
    exact lv_tableIn hx hb hd (fun q => ho (Or.inl q)) (fun q => ho (Or.inr q)) e1 (tgt := ((pc : Int) + off).toNat) (by omega) (e3 (by omega) H locs ls k9 n9 hR hL hl)
theorem v_lookup (g : zG F X y cc nL ret rm cn) {dflt : Int} {ps : Array (Int × Int)} {len : Nat} {x : Int32} {off : Int} {tgt : Nat} (hd : decode cc pc = .ok (.lookupswitch dflt ps, len)) (hp : (ps.toList.zip (ps.toList.drop 1)).all (fun (a, next) => a.1 < next.1) = true) (ho : Op.lookupswitch.offset ps.toList dflt x.toInt = off) (ht : (pc : Int) + off = (tgt : Int)) (kk : zV F X h tgt lv st) : zV F X h pc lv (.int x :: st) := by
  obtain ⟨l, D, dA, H0⟩ := F
  obtain ⟨p, e, R, s, m, args, below, meth, c, Q, nL'⟩ := X
  obtain ⟨rfl, rfl, hx, hb, hml, hr, hlk, hown, hnm, hts, hK, hc0, hn0⟩ := g
  intro H locs ls k9 n9 hR hL hl
  exact lv_lookup hx hb hd hp ho ht (kk H locs ls k9 n9 hR hL hl)
theorem v_idiv (g : zG F X y cc nL ret rm cn) {x z : Int32} (hd : decode cc pc = .ok (.idiv, 1)) (hz : ¬ z = 0) (kk : zV F X h (pc + 1) lv (.int (x / z) :: st)) : zV F X h pc lv (.int z :: .int x :: st) := by
  obtain ⟨l, D, dA, H0⟩ := F
  obtain ⟨p, e, R, s, m, args, below, meth, c, Q, nL'⟩ := X
  obtain ⟨rfl, rfl, hx, hb, hml, hr, hlk, hown, hnm, hts, hK, hc0, hn0⟩ := g
  intro H locs ls k9 n9 hR hL hl
  exact lv_idiv hx hb hd hz (kk H locs ls k9 n9 hR hL hl)
theorem v_irem (g : zG F X y cc nL ret rm cn) {x z : Int32} (hd : decode cc pc = .ok (.irem, 1)) (hz : ¬ z = 0) (kk : zV F X h (pc + 1) lv (.int (x - x / z * z) :: st)) : zV F X h pc lv (.int z :: .int x :: st) := by
  obtain ⟨l, D, dA, H0⟩ := F
  obtain ⟨p, e, R, s, m, args, below, meth, c, Q, nL'⟩ := X
  obtain ⟨rfl, rfl, hx, hb, hml, hr, hlk, hown, hnm, hts, hK, hc0, hn0⟩ := g
  intro H locs ls k9 n9 hR hL hl
  exact lv_irem hx hb hd hz (kk H locs ls k9 n9 hR hL hl)
theorem v_ldiv (g : zG F X y cc nL ret rm cn) {x z : Int64} (hd : decode cc pc = .ok (.ldiv, 1)) (hz : ¬ z = 0) (kk : zV F X h (pc + 1) lv (.long (x / z) :: st)) : zV F X h pc lv (.long z :: .long x :: st) := by
  obtain ⟨l, D, dA, H0⟩ := F
  obtain ⟨p, e, R, s, m, args, below, meth, c, Q, nL'⟩ := X
  obtain ⟨rfl, rfl, hx, hb, hml, hr, hlk, hown, hnm, hts, hK, hc0, hn0⟩ := g
  intro H locs ls k9 n9 hR hL hl
  exact lv_ldiv hx hb hd hz (kk H locs ls k9 n9 hR hL hl)
theorem v_lrem (g : zG F X y cc nL ret rm cn) {x z : Int64} (hd : decode cc pc = .ok (.lrem, 1)) (hz : ¬ z = 0) (kk : zV F X h (pc + 1) lv (.long (x - x / z * z) :: st)) : zV F X h pc lv (.long z :: .long x :: st) := by
  obtain ⟨l, D, dA, H0⟩ := F
  obtain ⟨p, e, R, s, m, args, below, meth, c, Q, nL'⟩ := X
  obtain ⟨rfl, rfl, hx, hb, hml, hr, hlk, hown, hnm, hts, hK, hc0, hn0⟩ := g
  intro H locs ls k9 n9 hR hL hl
  exact lv_lrem hx hb hd hz (kk H locs ls k9 n9 hR hL hl)
/-- the number on top gets a name -/
theorem v_topi {x : Int32} (kk : ∀ z : Int32, z = x → zV F X h pc lv (.int z :: st)) : zV F X h pc lv (.int x :: st) := kk x rfl
theorem v_topl {x : Int64} (kk : ∀ z : Int64, z = x → zV F X h pc lv (.long z :: st)) : zV F X h pc lv (.long x :: st) := kk x rfl
theorem v_st (hs : st = st') (kk : zV F X h pc lv st') : zV F X h pc lv st := hs ▸ kk
/-! returns -/
theorem v_iret (g : zG F X y cc nL ret rm cn) {post : Option Value → zH → Prop} (hZ : zZ F X post rm.cells rm.slots) {v : Int32} (hrt : ret = some .int) (hd : decode cc pc = .ok (.ireturn, 1)) (hp : post (some (.int v)) h) (hcs : h.2.1 ≤ cn.1 + rm.cells ∧ h.2.2 ≤ cn.2 + rm.slots) : zV F X h pc lv [.int v] := by
  obtain ⟨l, D, dA, H0⟩ := F
  obtain ⟨p, e, R, s, m, args, below, meth, c, Q, nL'⟩ := X
  obtain ⟨rfl, rfl, hx, hb, hml, hr, hlk, hown, hnm, hts, hK, hc0, hn0⟩ := g
  intro H locs ls k9 n9 hR hL hl
  have hZ : Q = MQ below (zQc D dA H0 post) args s R.cells R.slots (fun q => H0.size ≤ q) := hZ
  subst hZ
  refine zW_tight H0.size (by omega) (fun t1 t2 => ?_)
  refine W.widen (k := R.cells) (n := R.slots) (by have := hR.1; omega) (by have := hR.2.1; omega) ?_
  exact W.iret hx hb (hr.trans hrt) (fun t ht hW => ⟨_, h, rfl, hp, by rw [ht]; exact hR⟩) (fun q hq => hL q hq) hd hlk
theorem v_zret (g : zG F X y cc nL ret rm cn) {post : Option Value → zH → Prop} (hZ : zZ F X post rm.cells rm.slots) {v : Int32} (hrt : ret = some .boolean) (hv : v = 0 ∨ v = 1) (hd : decode cc pc = .ok (.ireturn, 1)) (hp : post (some (.int v)) h) (hcs : h.2.1 ≤ cn.1 + rm.cells ∧ h.2.2 ≤ cn.2 + rm.slots) : zV F X h pc lv [.int v] := by
  obtain ⟨l, D, dA, H0⟩ := F
  obtain ⟨p, e, R, s, m, args, below, meth, c, Q, nL'⟩ := X
  obtain ⟨rfl, rfl, hx, hb, hml, hr, hlk, hown, hnm, hts, hK, hc0, hn0⟩ := g
  intro H locs ls k9 n9 hR hL hl
  have hZ : Q = MQ below (zQc D dA H0 post) args s R.cells R.slots (fun q => H0.size ≤ q) := hZ
  subst hZ
  refine zW_tight H0.size (by omega) (fun t1 t2 => ?_)
  refine W.widen (k := R.cells) (n := R.slots) (by have := hR.1; omega) (by have := hR.2.1; omega) ?_
  exact W.zret hx hb (hr.trans hrt) (by rcases hv with rfl | rfl <;> rfl) (fun t ht hW => ⟨_, h, rfl, hp, by rw [ht]; exact hR⟩) (fun q hq => hL q hq) hd hlk
theorem v_lret (g : zG F X y cc nL ret rm cn) {post : Option Value → zH → Prop} (hZ : zZ F X post rm.cells rm.slots) {v : Int64} (hrt : ret = some .long) (hd : decode cc pc = .ok (.lreturn, 1)) (hp : post (some (.long v)) h) (hcs : h.2.1 ≤ cn.1 + rm.cells ∧ h.2.2 ≤ cn.2 + rm.slots) : zV F X h pc lv [.long v] := by
  obtain ⟨l, D, dA, H0⟩ := F
  obtain ⟨p, e, R, s, m, args, below, meth, c, Q, nL'⟩ := X
  obtain ⟨rfl, rfl, hx, hb, hml, hr, hlk, hown, hnm, hts, hK, hc0, hn0⟩ := g
  intro H locs ls k9 n9 hR hL hl
  have hZ : Q = MQ below (zQc D dA H0 post) args s R.cells R.slots (fun q => H0.size ≤ q) := hZ
  subst hZ
  refine zW_tight H0.size (by omega) (fun t1 t2 => ?_)
  refine W.widen (k := R.cells) (n := R.slots) (by have := hR.1; omega) (by have := hR.2.1; omega) ?_
  exact W.lret hx hb (hr.trans hrt) (fun t ht hW => ⟨_, h, rfl, hp, by rw [ht]; exact hR⟩) (fun q hq => hL q hq) hd hlk
theorem v_vret (g : zG F X y cc nL ret rm cn) {post : Option Value → zH → Prop} (hZ : zZ F X post rm.cells rm.slots) (hrt : ret = none) (hd : decode cc pc = .ok (.return_, 1)) (hp : post (none) h) (hcs : h.2.1 ≤ cn.1 + rm.cells ∧ h.2.2 ≤ cn.2 + rm.slots) : zV F X h pc lv [] := by
  obtain ⟨l, D, dA, H0⟩ := F
  obtain ⟨p, e, R, s, m, args, below, meth, c, Q, nL'⟩ := X
  obtain ⟨rfl, rfl, hx, hb, hml, hr, hlk, hown, hnm, hts, hK, hc0, hn0⟩ := g
  intro H locs ls k9 n9 hR hL hl
  have hZ : Q = MQ below (zQc D dA H0 post) args s R.cells R.slots (fun q => H0.size ≤ q) := hZ
  subst hZ
  refine zW_tight H0.size (by omega) (fun t1 t2 => ?_)
  refine W.widen (k := R.cells) (n := R.slots) (by have := hR.1; omega) (by have := hR.2.1; omega) ?_
  exact W.vret hx hb (hr.trans hrt) (fun t ht hW => ⟨_, h, rfl, hp, by rw [ht]; exact hR⟩) (fun q hq => hL q hq) hd hlk
theorem v_aret (g : zG F X y cc nL ret rm cn) {post : Option Value → zH → Prop} (hZ : zZ F X post rm.cells rm.slots) {r : Option Nat} {C : String} (hrt : ret = some (.object C)) (hd : decode cc pc = .ok (.areturn, 1)) (hp : post (some (va_rf r)) h) (hcs : h.2.1 ≤ cn.1 + rm.cells ∧ h.2.2 ≤ cn.2 + rm.slots) : zV F X h pc lv [va_rf r] := by
  obtain ⟨l, D, dA, H0⟩ := F
  obtain ⟨p, e, R, s, m, args, below, meth, c, Q, nL'⟩ := X
  obtain ⟨rfl, rfl, hx, hb, hml, hr, hlk, hown, hnm, hts, hK, hc0, hn0⟩ := g
  intro H locs ls k9 n9 hR hL hl
  have hZ : Q = MQ below (zQc D dA H0 post) args s R.cells R.slots (fun q => H0.size ≤ q) := hZ
  subst hZ
  refine zW_tight H0.size (by omega) (fun t1 t2 => ?_)
  refine W.widen (k := R.cells) (n := R.slots) (by have := hR.1; omega) (by have := hR.2.1; omega) ?_
  exact W.aret hx hb (hr.trans hrt) (Or.inl ⟨_, rfl⟩) (va_rf_or r) (fun t ht hW => ⟨_, h, rfl, hp, by rw [ht]; exact hR⟩) (fun q hq => hL q hq) hd hlk
end VR
