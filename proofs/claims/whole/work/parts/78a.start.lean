/-! the start: what the tables and the statement's premises say -/
theorem zW_tb : ∀ w ∈ zW, w ∈ lw_tbl := fun w hw => (List.mem_filter.mp hw).1
theorem ao_of {args : Array Value} {s : State} {C : String} (h : (Cond.arrayOver (.object C)).before args s = true) : ∃ cA, ArrOfT s cA (.object C) ∧ va_RA s cA (.object C) := by
  obtain ⟨comp, c, k, h1, -, h2, h3, h4⟩ := Cond.arrayOver_spec h
  exact ⟨c, fun n z => ⟨fun k h => (by cases h), k, h2, comp, h3⟩, k, comp, h2, h3, h1, h4⟩
theorem ac_of {args : Array Value} {s : State} {ty : FieldType} (h : (Cond.arrayClass ty).before args s = true) : ∃ cA, ArrOfT s cA ty ∧ s.vm.findClass ("[" ++ ty.toString) = some cA := by
  obtain ⟨c, k, comp, h1, h2, h3⟩ := Cond.arrayClass_spec h
  exact ⟨c, fun n z => ⟨fun k h => (by cases h), k, h2, comp, h3⟩, h1⟩
theorem start_K {s : State} {args : Array Value} (hts : ∀ w ∈ lw_tbl, w.before args s = true) (hg : (Jvm.Cond.and given_1 narrow_1).before args s = true) : ∃ (D : va_G) (dA : Nat → ClassId), zK D dA s.heap s := by
  have wd : ∀ {w : Cond} (i : Nat), lw_tbl[i]? = some w → w.before args s = true := fun i hi => hts _ (List.mem_of_getElem? hi)
  obtain ⟨c0, i0, n0⟩ := u_known (C := RX0) (T := TX0) (N := 11) (n := 11) hts (fun w hw => zW_tb w (in_X0 w hw)) (wd 148 (by decide +kernel))
  obtain ⟨c1, i1, n1⟩ := u_known (C := RX1) (T := TX1) (N := 5) (n := 5) hts (fun w hw => zW_tb w (in_X1 w hw)) (wd 449 (by decide +kernel))
  obtain ⟨c2, i2, n2⟩ := u_known (C := RX2) (T := TX2) (N := 6) (n := 6) hts (fun w hw => zW_tb w (in_X2 w hw)) (wd 160 (by decide +kernel))
  obtain ⟨c3, i3, n3⟩ := u_known (C := RX3) (T := TX3) (N := 1) (n := 1) hts (fun w hw => zW_tb w (in_X3 w hw)) (wd 373 (by decide +kernel))
  obtain ⟨c4, i4, n4⟩ := u_known (C := RX4) (T := TX4) (N := 7) (n := 7) hts (fun w hw => zW_tb w (in_X4 w hw)) (wd 96 (by decide +kernel))
  obtain ⟨c5, i5, n5⟩ := u_known (C := RX5) (T := TX5) (N := 4) (n := 4) hts (fun w hw => zW_tb w (in_X5 w hw)) (wd 128 (by decide +kernel))
  obtain ⟨c6, i6, n6⟩ := u_known (C := RX6) (T := TX6) (N := 2) (n := 2) hts (fun w hw => zW_tb w (in_X6 w hw)) (wd 80 (by decide +kernel))
  obtain ⟨c7, i7, n7⟩ := u_known (C := RX7) (T := TX7) (N := 9) (n := 9) hts (fun w hw => zW_tb w (in_X7 w hw)) (wd 72 (by decide +kernel))
  obtain ⟨c8, i8, n8⟩ := u_known (C := RX8) (T := TX8) (N := 44) (n := 44) hts (fun w hw => zW_tb w (in_X8 w hw)) (wd 807 (by decide +kernel))
  obtain ⟨a0, r0, q0⟩ := ac_of (wd (w := .arrayClass .int) 94 (by decide +kernel))
  obtain ⟨a1, r1, q1⟩ := ac_of (wd (w := .arrayClass .long) 146 (by decide +kernel))
  obtain ⟨a2, r2, q2⟩ := ac_of (wd (w := .arrayClass .boolean) 946 (by decide +kernel))
  have o3 := wd (w := .arrayOver (.object RX3)) 102 (by decide +kernel)
  have o4 := wd (w := .arrayOver (.object RX1)) 157 (by decide +kernel)
  have o5 := wd (w := .arrayOver (.object RX2)) 159 (by decide +kernel)
  obtain ⟨a3, r3, q3⟩ := ao_of o3
  obtain ⟨a4, r4, q4⟩ := ao_of o4
  obtain ⟨a5, r5, q5⟩ := ao_of o5
  have fl := flat_of_before _ hg
  obtain ⟨t, ht, hT⟩ := va_Tof (args := args) (s := s) (tm := .static RX3 "WITH_MATCH" "[J") (ty := .long) (N := 6) (f := zWM) (A := fun q => s.heap.size ≤ q) (by decide) (fl _ (by decide +kernel)) (va_eqt (fl (.eq (.length (.static RX3 "WITH_MATCH" "[J")) (.int 6)) (by decide +kernel)))
    (fun j hj => by
      have : j = 0 ∨ j = 1 ∨ j = 2 ∨ j = 3 ∨ j = 4 ∨ j = 5 := by omega
      rcases this with rfl | rfl | rfl | rfl | rfl | rfl
      · exact va_eqtl (fl (.eq (.elem (.static RX3 "WITH_MATCH" "[J") (.int 0)) (.long (-6148914691236517206))) (by decide +kernel))
      · exact va_eqtl (fl (.eq (.elem (.static RX3 "WITH_MATCH" "[J") (.int 1)) (.long (-3689348814741910324))) (by decide +kernel))
      · exact va_eqtl (fl (.eq (.elem (.static RX3 "WITH_MATCH" "[J") (.int 2)) (.long (-1085102592571150096))) (by decide +kernel))
      · exact va_eqtl (fl (.eq (.elem (.static RX3 "WITH_MATCH" "[J") (.int 3)) (.long (-71777214294589696))) (by decide +kernel))
      · exact va_eqtl (fl (.eq (.elem (.static RX3 "WITH_MATCH" "[J") (.int 4)) (.long (-281470681808896))) (by decide +kernel))
      · exact va_eqtl (fl (.eq (.elem (.static RX3 "WITH_MATCH" "[J") (.int 5)) (.long (-4294967296))) (by decide +kernel)))
    (fun a ha => Nat.not_le.mpr ha)
  refine ⟨⟨fun k => match k with
    | 0 => c0
    | 1 => c1
    | 2 => c2
    | 3 => c3
    | 4 => c4
    | 5 => c5
    | 6 => c6
    | 7 => c7
    | _ => c8, fun k => match k with
    | 0 => i0
    | 1 => i1
    | 2 => i2
    | 3 => i3
    | 4 => i4
    | 5 => i5
    | 6 => i6
    | 7 => i7
    | _ => i8⟩, fun k => match k with | 0 => a0 | 1 => a1 | 2 => a2 | 3 => a3 | 4 => a4 | _ => a5, ⟨fun c q hq => ?_, fun k q hq => ?_⟩, ⟨o3, o4, o5⟩, t, va_Zof (wd 437 (by decide +kernel)) (wd 62 (by decide +kernel)) ht (fun a ha => Nat.not_le.mpr ha), hT⟩
  · match c with
      | 0 => rw [← Option.some.inj (show some (RX0, TX0, 11) = some q from hq)]; exact n0
      | 1 => rw [← Option.some.inj (show some (RX1, TX1, 5) = some q from hq)]; exact n1
      | 2 => rw [← Option.some.inj (show some (RX2, TX2, 6) = some q from hq)]; exact n2
      | 3 => rw [← Option.some.inj (show some (RX3, TX3, 1) = some q from hq)]; exact n3
      | 4 => rw [← Option.some.inj (show some (RX4, TX4, 7) = some q from hq)]; exact n4
      | 5 => rw [← Option.some.inj (show some (RX5, TX5, 4) = some q from hq)]; exact n5
      | 6 => rw [← Option.some.inj (show some (RX6, TX6, 2) = some q from hq)]; exact n6
      | 7 => rw [← Option.some.inj (show some (RX7, TX7, 9) = some q from hq)]; exact n7
      | 8 => rw [← Option.some.inj (show some (RX8, TX8, 44) = some q from hq)]; exact n8
      | n + 9 => exact absurd hq (by simp)
  · match k with
      | 0 => rw [← Option.some.inj (show some (a0, FieldType.int) = some q from hq)]; exact ⟨r0, q0⟩
      | 1 => rw [← Option.some.inj (show some (a1, FieldType.long) = some q from hq)]; exact ⟨r1, q1⟩
      | 2 => rw [← Option.some.inj (show some (a2, FieldType.boolean) = some q from hq)]; exact ⟨r2, q2⟩
      | 3 => rw [← Option.some.inj (show some (a3, FieldType.object RX3) = some q from hq)]; exact ⟨r3, q3⟩
      | 4 => rw [← Option.some.inj (show some (a4, FieldType.object RX1) = some q from hq)]; exact ⟨r4, q4⟩
      | 5 => rw [← Option.some.inj (show some (a5, FieldType.object RX2) = some q from hq)]; exact ⟨r5, q5⟩
      | n + 6 => exact absurd hq (by simp)
theorem start_KX {s : State} {args : Array Value} (hts : ∀ w ∈ lw_tbl, w.before args s = true) (hg : (Jvm.Cond.and given_1 narrow_1).before args s = true) : zKX s.heap s := by
  have wd : ∀ {w : Cond} (i : Nat), lw_tbl[i]? = some w → w.before args s = true := fun i hi => hts _ (List.mem_of_getElem? hi)
  have fl := flat_of_before _ hg
  obtain ⟨c7, i7, n7⟩ := u_known (C := RX7) (T := TX7) (N := 9) (n := 9) hts (fun w hw => zW_tb w (in_X7 w hw)) (wd 72 (by decide +kernel))
  have w7 : (Cond.stringRef RX7 117 "no such coupon").before args s = true := wd 765 (by decide +kernel)
  have w8 : (Cond.stringRef RX7 147 "nothing such is told of a coupon").before args s = true := wd 805 (by decide +kernel)
  obtain ⟨_, _, _, s7, -, -, -, -, -, e7⟩ := Cond.stringRef_spec n7.2.1 w7
  obtain ⟨_, _, _, s8, -, -, -, -, -, e8⟩ := Cond.stringRef_spec n7.2.1 w8
  refine ⟨⟨vx_Zqof (wd 753 (by decide +kernel)) (wd 66 (by decide +kernel)) (fl _ (by decide +kernel)) (fun a ha => Nat.not_le.mpr ha), vx_Zqof (wd 755 (by decide +kernel)) (wd 66 (by decide +kernel)) (fl _ (by decide +kernel)) (fun a ha => Nat.not_le.mpr ha)⟩, fun w hw a => ?_, ⟨s7, vk_R.of w7 e7⟩, s8, vk_R.of w8 e8⟩
  have hb : w.before args s = true := by
    simp only [nxW, List.mem_cons, List.not_mem_nil, or_false] at hw
    rcases hw with rfl | rfl | rfl | rfl
    · exact wd 730 (by decide +kernel)
    · exact wd 732 (by decide +kernel)
    · exact wd 734 (by decide +kernel)
    · exact wd 728 (by decide +kernel)
  exact Cond.tabsOnly_warm (T := s) (State.WarmedH.refl s) w (nxW_tabs w hw).1 hb
