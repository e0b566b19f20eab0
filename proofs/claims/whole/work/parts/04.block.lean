/-! straight stretches: what instructions do to locals and stack alone -/
def z_l : zLv → Nat → Option Value
  | [], _ => none
  | q :: t, i => if q.1 = i then some q.2 else z_l t i
theorem z_l_at {ls : Array Slot} {nL : Nat} : ∀ {lv : zLv} {i : Nat} {v : Value}, lv_has ls nL lv → z_l lv i = some v → ls[i]? = some (.val v)
  | [], i, v, _, h => by cases h
  | q :: t, i, v, hl, h => by
    unfold z_l at h
    by_cases hq : q.1 = i
    · rw [if_pos hq] at h
      cases h
      subst hq
      exact hl.2.2 q List.mem_cons_self
    · rw [if_neg hq] at h
      exact z_l_at ⟨hl.1, hl.2.1, fun z hz => hl.2.2 z (List.mem_cons_of_mem _ hz)⟩ h
def z_u1 (lv : zLv) (i : Nat) (v : Value) : zLv := (i, v) :: lv.filter (fun q => !(q.1 == i) && !(q.1 + 1 == i && q.2.category == 2))
def z_u2 (lv : zLv) (i : Nat) (v : Value) : zLv := (i, v) :: lv.filter (fun q => !(q.1 == i) && (!(q.1 == i + 1) && !(q.1 + 1 == i && q.2.category == 2)))
abbrev zO : Type := Option (zLv × List Value)
def z_ldI (lv : zLv) (i : Nat) (st : List Value) : zO := match z_l lv i with
  | some (.int x) => some (lv, .int x :: st)
  | _ => none
def z_ldJ (lv : zLv) (i : Nat) (st : List Value) : zO := match z_l lv i with
  | some (.long x) => some (lv, .long x :: st)
  | _ => none
def z_ldA (lv : zLv) (i : Nat) (st : List Value) : zO := match z_l lv i with
  | some (.ref x) => some (lv, .ref x :: st)
  | some .null => some (lv, .null :: st)
  | _ => none
def z_stI (nL : Nat) (lv : zLv) (i : Nat) (st : List Value) : zO := match st with
  | .int x :: r => if i < nL then some (z_u1 lv i (.int x), r) else none
  | _ => none
def z_stJ (nL : Nat) (lv : zLv) (i : Nat) (st : List Value) : zO := match st with
  | .long x :: r => if i + 1 < nL then some (z_u2 lv i (.long x), r) else none
  | _ => none
def z_stA (nL : Nat) (lv : zLv) (i : Nat) (st : List Value) : zO := match st with
  | .ref x :: r => if i < nL then some (z_u1 lv i (.ref x), r) else none
  | .null :: r => if i < nL then some (z_u1 lv i .null, r) else none
  | _ => none
def z_inc (nL : Nat) (lv : zLv) (i : Nat) (n : Int) (st : List Value) : zO := match z_l lv i with
  | some (.int x) => if i < nL then some (z_u1 lv i (.int (x + Int32.ofInt n)), st) else none
  | _ => none
def z_b (lv : zLv) (st : List Value) (f : Int32 → Int32 → Int32) : zO := match st with
  | .int y :: .int x :: r => some (lv, .int (f x y) :: r)
  | _ => none
def z_bL (lv : zLv) (st : List Value) (f : Int64 → Int64 → Int64) : zO := match st with
  | .long y :: .long x :: r => some (lv, .long (f x y) :: r)
  | _ => none
def z_bS (lv : zLv) (st : List Value) (f : Int64 → Int32 → Int64) : zO := match st with
  | .int y :: .long x :: r => some (lv, .long (f x y) :: r)
  | _ => none
def z_cmp (lv : zLv) (st : List Value) : zO := match st with
  | .long y :: .long x :: r => some (lv, .int (lg_cmp x y) :: r)
  | _ => none
def z_i2l (lv : zLv) (st : List Value) : zO := match st with
  | .int x :: r => some (lv, .long x.toInt64 :: r)
  | _ => none
def z_l2i (lv : zLv) (st : List Value) : zO := match st with
  | .long x :: r => some (lv, .int x.toInt32 :: r)
  | _ => none
def z_dup (lv : zLv) (st : List Value) : zO := match st with
  | v :: r => if v.category = 1 then some (lv, v :: v :: r) else none
  | _ => none
def z_dup2 (lv : zLv) (st : List Value) : zO := match st with
  | v :: r => if v.category = 2 then some (lv, v :: v :: r) else match r with
    | w :: r2 => if v.category = 1 ∧ w.category = 1 then some (lv, v :: w :: v :: w :: r2) else none
    | _ => none
  | _ => none
def z_pop (lv : zLv) (st : List Value) : zO := match st with
  | v :: r => if v.category = 1 then some (lv, r) else none
  | _ => none
def z_1 (nL : Nat) (i : Instr) (lv : zLv) (st : List Value) : zO := match i with
  | .iconst n => some (lv, .int (Int32.ofInt n) :: st)
  | .bipush n => some (lv, .int (Int8.ofInt n).toInt32 :: st)
  | .sipush n => some (lv, .int (Int16.ofInt n).toInt32 :: st)
  | .lconst n => some (lv, .long (Int64.ofNat (n : Nat)) :: st)
  | .aconst_null => some (lv, .null :: st)
  | .iload_n k => z_ldI lv (k : Nat) st
  | .iload k => z_ldI lv k st
  | .lload_n k => z_ldJ lv (k : Nat) st
  | .lload k => z_ldJ lv k st
  | .aload_n k => z_ldA lv (k : Nat) st
  | .aload k => z_ldA lv k st
  | .istore_n k => z_stI nL lv (k : Nat) st
  | .istore k => z_stI nL lv k st
  | .lstore_n k => z_stJ nL lv (k : Nat) st
  | .lstore k => z_stJ nL lv k st
  | .astore_n k => z_stA nL lv (k : Nat) st
  | .astore k => z_stA nL lv k st
  | .iinc k n => z_inc nL lv k n st
  | .iadd => z_b lv st (fun x y => x + y)
  | .isub => z_b lv st (fun x y => x - y)
  | .imul => z_b lv st (fun x y => x * y)
  | .iand => z_b lv st (fun x y => x &&& y)
  | .ior => z_b lv st (fun x y => x ||| y)
  | .ixor => z_b lv st (fun x y => x ^^^ y)
  | .ishl => z_b lv st (fun x y => x <<< (y &&& 31))
  | .ishr => z_b lv st (fun x y => x >>> (y &&& 31))
  | .iushr => z_b lv st (fun x y => (x.toUInt32 >>> (y.toUInt32 &&& Int32.toUInt32 31)).toInt32)
  | .ladd => z_bL lv st (fun x y => x + y)
  | .lsub => z_bL lv st (fun x y => x - y)
  | .lmul => z_bL lv st (fun x y => x * y)
  | .land => z_bL lv st (fun x y => x &&& y)
  | .lor => z_bL lv st (fun x y => x ||| y)
  | .lxor => z_bL lv st (fun x y => x ^^^ y)
  | .lshl => z_bS lv st (fun x y => x <<< (y.toInt64 &&& 63))
  | .lushr => z_bS lv st (fun x y => (x.toUInt64 >>> (y.toInt64.toUInt64 &&& Int64.toUInt64 63)).toInt64)
  | .lcmp => z_cmp lv st
  | .i2l => z_i2l lv st
  | .l2i => z_l2i lv st
  | .dup => z_dup lv st
  | .dup2 => z_dup2 lv st
  | .pop => z_pop lv st
  | _ => none
def z_len (i : Instr) : Nat := match i with
  | .bipush _ => 2
  | .sipush _ => 3
  | .iload _ => 2
  | .lload _ => 2
  | .aload _ => 2
  | .istore _ => 2
  | .lstore _ => 2
  | .astore _ => 2
  | .iinc _ _ => 3
  | _ => 1
theorem z_ldI_inv {lv lv' : zLv} {i : Nat} {st st' : List Value} (h : z_ldI lv i st = some (lv', st')) : ∃ x, z_l lv i = some (.int x) ∧ lv' = lv ∧ st' = .int x :: st := by
  unfold z_ldI at h; split at h
  · rename_i x hx; cases h; exact ⟨x, hx, rfl, rfl⟩
  · cases h
theorem z_ldJ_inv {lv lv' : zLv} {i : Nat} {st st' : List Value} (h : z_ldJ lv i st = some (lv', st')) : ∃ x, z_l lv i = some (.long x) ∧ lv' = lv ∧ st' = .long x :: st := by
  unfold z_ldJ at h; split at h
  · rename_i x hx; cases h; exact ⟨x, hx, rfl, rfl⟩
  · cases h
theorem z_ldA_inv {lv lv' : zLv} {i : Nat} {st st' : List Value} (h : z_ldA lv i st = some (lv', st')) : (∃ x, z_l lv i = some (.ref x) ∧ lv' = lv ∧ st' = .ref x :: st) ∨ (z_l lv i = some .null ∧ lv' = lv ∧ st' = .null :: st) := by
  unfold z_ldA at h; split at h
  · rename_i x hx; cases h; exact Or.inl ⟨x, hx, rfl, rfl⟩
  · rename_i hx; cases h; exact Or.inr ⟨hx, rfl, rfl⟩
  · cases h
theorem z_stI_inv {nL : Nat} {lv lv' : zLv} {i : Nat} {st st' : List Value} (h : z_stI nL lv i st = some (lv', st')) : ∃ x, st = .int x :: st' ∧ i < nL ∧ lv' = z_u1 lv i (.int x) := by
  unfold z_stI at h; split at h
  · split at h
    · cases h; exact ⟨_, rfl, by assumption, rfl⟩
    · cases h
  · cases h
theorem z_stJ_inv {nL : Nat} {lv lv' : zLv} {i : Nat} {st st' : List Value} (h : z_stJ nL lv i st = some (lv', st')) : ∃ x, st = .long x :: st' ∧ i + 1 < nL ∧ lv' = z_u2 lv i (.long x) := by
  unfold z_stJ at h; split at h
  · split at h
    · cases h; exact ⟨_, rfl, by assumption, rfl⟩
    · cases h
  · cases h
theorem z_stA_inv {nL : Nat} {lv lv' : zLv} {i : Nat} {st st' : List Value} (h : z_stA nL lv i st = some (lv', st')) : (∃ x, st = .ref x :: st' ∧ i < nL ∧ lv' = z_u1 lv i (.ref x)) ∨ (st = .null :: st' ∧ i < nL ∧ lv' = z_u1 lv i .null) := by
  unfold z_stA at h; split at h
  · split at h
    · cases h; exact Or.inl ⟨_, rfl, by assumption, rfl⟩
    · cases h
  · split at h
    · cases h; exact Or.inr ⟨rfl, by assumption, rfl⟩
    · cases h
  · cases h
theorem z_inc_inv {nL : Nat} {lv lv' : zLv} {i : Nat} {n : Int} {st st' : List Value} (h : z_inc nL lv i n st = some (lv', st')) : ∃ x, z_l lv i = some (.int x) ∧ i < nL ∧ lv' = z_u1 lv i (.int (x + Int32.ofInt n)) ∧ st' = st := by
  unfold z_inc at h; split at h
  · rename_i x hx
    split at h
    · cases h; exact ⟨x, hx, by assumption, rfl, rfl⟩
    · cases h
  · cases h
theorem z_b_inv {lv lv' : zLv} {st st' : List Value} {f : Int32 → Int32 → Int32} (h : z_b lv st f = some (lv', st')) : ∃ x y r, st = .int y :: .int x :: r ∧ lv' = lv ∧ st' = .int (f x y) :: r := by
  unfold z_b at h; split at h
  · cases h; exact ⟨_, _, _, rfl, rfl, rfl⟩
  · cases h
theorem z_bL_inv {lv lv' : zLv} {st st' : List Value} {f : Int64 → Int64 → Int64} (h : z_bL lv st f = some (lv', st')) : ∃ x y r, st = .long y :: .long x :: r ∧ lv' = lv ∧ st' = .long (f x y) :: r := by
  unfold z_bL at h; split at h
  · cases h; exact ⟨_, _, _, rfl, rfl, rfl⟩
  · cases h
theorem z_bS_inv {lv lv' : zLv} {st st' : List Value} {f : Int64 → Int32 → Int64} (h : z_bS lv st f = some (lv', st')) : ∃ x y r, st = .int y :: .long x :: r ∧ lv' = lv ∧ st' = .long (f x y) :: r := by
  unfold z_bS at h; split at h
  · cases h; exact ⟨_, _, _, rfl, rfl, rfl⟩
  · cases h
theorem z_cmp_inv {lv lv' : zLv} {st st' : List Value} (h : z_cmp lv st = some (lv', st')) : ∃ x y r, st = .long y :: .long x :: r ∧ lv' = lv ∧ st' = .int (lg_cmp x y) :: r := by
  unfold z_cmp at h; split at h
  · cases h; exact ⟨_, _, _, rfl, rfl, rfl⟩
  · cases h
theorem z_i2l_inv {lv lv' : zLv} {st st' : List Value} (h : z_i2l lv st = some (lv', st')) : ∃ x r, st = .int x :: r ∧ lv' = lv ∧ st' = .long x.toInt64 :: r := by
  unfold z_i2l at h; split at h
  · cases h; exact ⟨_, _, rfl, rfl, rfl⟩
  · cases h
theorem z_l2i_inv {lv lv' : zLv} {st st' : List Value} (h : z_l2i lv st = some (lv', st')) : ∃ x r, st = .long x :: r ∧ lv' = lv ∧ st' = .int x.toInt32 :: r := by
  unfold z_l2i at h; split at h
  · cases h; exact ⟨_, _, rfl, rfl, rfl⟩
  · cases h
theorem z_dup_inv {lv lv' : zLv} {st st' : List Value} (h : z_dup lv st = some (lv', st')) : ∃ v r, st = v :: r ∧ v.category = 1 ∧ lv' = lv ∧ st' = v :: v :: r := by
  unfold z_dup at h; split at h
  · split at h
    · cases h; exact ⟨_, _, rfl, by assumption, rfl, rfl⟩
    · cases h
  · cases h
theorem z_pop_inv {lv lv' : zLv} {st st' : List Value} (h : z_pop lv st = some (lv', st')) : ∃ v, st = v :: st' ∧ v.category = 1 ∧ lv' = lv := by
  unfold z_pop at h; split at h
  · split at h
    · cases h; exact ⟨_, rfl, by assumption, rfl⟩
    · cases h
  · cases h
theorem z_dup2_inv {lv lv' : zLv} {st st' : List Value} (h : z_dup2 lv st = some (lv', st')) : (∃ v r, st = v :: r ∧ v.category = 2 ∧ lv' = lv ∧ st' = v :: v :: r) ∨ (∃ v w r, st = v :: w :: r ∧ v.category = 1 ∧ w.category = 1 ∧ lv' = lv ∧ st' = v :: w :: v :: w :: r) := by
  unfold z_dup2 at h; split at h
  · split at h
    · cases h; exact Or.inl ⟨_, _, rfl, by assumption, rfl, rfl⟩
    · split at h
      · split at h
        · rename_i hc; cases h; exact Or.inr ⟨_, _, _, rfl, hc.1, hc.2, rfl, rfl⟩
        · cases h
      · cases h
  · cases h
section VB
variable {F : zF} {X : zX} {y : MethodName} {cc : ByteArray} {nL : Nat} {ret : Option FieldType} {rm : Room} {cn : Nat × Nat} {h : zH} {pc : Nat} {lv lv' : zLv} {st st' : List Value}
theorem v_1 (g : zG F X y cc nL ret rm cn) {i : Instr} (hd : decode cc pc = .ok (i, z_len i)) (he : z_1 nL i lv st = some (lv', st')) (kk : zV F X h (pc + z_len i) lv' st') : zV F X h pc lv st := by
  obtain ⟨l, D, dA, H0⟩ := F
  obtain ⟨p, e, R, s, m, args, below, meth, c, Q, nL'⟩ := X
  obtain ⟨rfl, -, hx, hb, -⟩ := g
  intro H locs ls k n hR hL hl
  have K := fun ls' (hl' : lv_has ls' nL' lv') => kk H locs ls' k n hR hL hl'
  clear kk
  unfold z_1 at he
  split at he
  · cases he; exact lv_iconst hx hb hd rfl (K ls hl)
  · cases he; exact lv_bipush hx hb hd rfl (K ls hl)
  · cases he; exact lv_sipush hx hb hd rfl (K ls hl)
  · cases he; exact lv_lconst hx hb hd rfl (K ls hl)
  · cases he; exact lv_null hx hb hd (K ls hl)
  · obtain ⟨x, h1, rfl, rfl⟩ := z_ldI_inv he; exact lv_iload_n hx hb hd rfl (z_l_at hl h1) (K ls hl)
  · obtain ⟨x, h1, rfl, rfl⟩ := z_ldI_inv he; exact lv_iload hx hb hd (z_l_at hl h1) (K ls hl)
  · obtain ⟨x, h1, rfl, rfl⟩ := z_ldJ_inv he; exact lv_lload_n hx hb hd rfl (z_l_at hl h1) (K ls hl)
  · obtain ⟨x, h1, rfl, rfl⟩ := z_ldJ_inv he; exact lv_lload hx hb hd (z_l_at hl h1) (K ls hl)
  · rcases z_ldA_inv he with ⟨x, h1, rfl, rfl⟩ | ⟨h1, rfl, rfl⟩
    · exact lv_aload_n hx hb hd rfl (z_l_at hl h1) (K ls hl)
    · exact lv_aload_nN hx hb hd rfl (z_l_at hl h1) (K ls hl)
  · rcases z_ldA_inv he with ⟨x, h1, rfl, rfl⟩ | ⟨h1, rfl, rfl⟩
    · exact lv_aload hx hb hd (z_l_at hl h1) (K ls hl)
    · exact lv_aloadN hx hb hd (z_l_at hl h1) (K ls hl)
  · obtain ⟨x, rfl, h2, rfl⟩ := z_stI_inv he; exact lv_istore_n hx hb hd rfl hl h2 rfl K
  · obtain ⟨x, rfl, h2, rfl⟩ := z_stI_inv he; exact lv_istore hx hb hd hl h2 rfl K
  · obtain ⟨x, rfl, h2, rfl⟩ := z_stJ_inv he; exact lv_lstore_n hx hb hd rfl hl h2 rfl K
  · obtain ⟨x, rfl, h2, rfl⟩ := z_stJ_inv he; exact lv_lstore hx hb hd hl h2 rfl K
  · rcases z_stA_inv he with ⟨x, rfl, h2, rfl⟩ | ⟨rfl, h2, rfl⟩
    · exact lv_astore_n hx hb hd rfl hl h2 rfl K
    · exact lv_astore_nN hx hb hd rfl hl h2 rfl K
  · rcases z_stA_inv he with ⟨x, rfl, h2, rfl⟩ | ⟨rfl, h2, rfl⟩
    · exact lv_astore hx hb hd hl h2 rfl K
    · exact lv_astoreN hx hb hd hl h2 rfl K
  · obtain ⟨x, h1, h2, rfl, rfl⟩ := z_inc_inv he
    have hq := z_l_at hl h1
    have hl2 : lv_has ls nL' ((_, .int x) :: lv) := ⟨hl.1, hl.2.1, fun q hq2 => (List.mem_cons.mp hq2).elim (fun e => by rw [e]; exact hq) (hl.2.2 q)⟩
    refine lv_iinc hx hb hd hl2 (k := 0) rfl rfl h2 rfl (fun ls' hl' => K ls' ⟨hl'.1, hl'.2.1, fun q hq2 => hl'.2.2 q ?_⟩)
    rcases List.mem_cons.mp hq2 with e | e
    · rw [e]; exact List.mem_cons_self
    · refine List.mem_cons_of_mem _ ?_
      rw [List.filter_cons]
      split
      · exact List.mem_cons_of_mem _ e
      · exact e
  · obtain ⟨x, y, r, rfl, rfl, rfl⟩ := z_b_inv he; exact lv_iadd hx hb hd (K ls hl)
  · obtain ⟨x, y, r, rfl, rfl, rfl⟩ := z_b_inv he; exact lv_isub hx hb hd (K ls hl)
  · obtain ⟨x, y, r, rfl, rfl, rfl⟩ := z_b_inv he; exact lv_imul hx hb hd (K ls hl)
  · obtain ⟨x, y, r, rfl, rfl, rfl⟩ := z_b_inv he; exact lv_iand hx hb hd (K ls hl)
  · obtain ⟨x, y, r, rfl, rfl, rfl⟩ := z_b_inv he; exact lv_ior hx hb hd (K ls hl)
  · obtain ⟨x, y, r, rfl, rfl, rfl⟩ := z_b_inv he; exact lv_ixor hx hb hd (K ls hl)
  · obtain ⟨x, y, r, rfl, rfl, rfl⟩ := z_b_inv he; exact lv_ishl hx hb hd (K ls hl)
  · obtain ⟨x, y, r, rfl, rfl, rfl⟩ := z_b_inv he; exact lv_ishr hx hb hd (K ls hl)
  · obtain ⟨x, y, r, rfl, rfl, rfl⟩ := z_b_inv he; exact lv_iushr hx hb hd rfl (K ls hl)
  · obtain ⟨x, y, r, rfl, rfl, rfl⟩ := z_bL_inv he; exact lv_ladd hx hb hd (K ls hl)
  · obtain ⟨x, y, r, rfl, rfl, rfl⟩ := z_bL_inv he; exact lv_lsub hx hb hd (K ls hl)
  · obtain ⟨x, y, r, rfl, rfl, rfl⟩ := z_bL_inv he; exact lv_lmul hx hb hd (K ls hl)
  · obtain ⟨x, y, r, rfl, rfl, rfl⟩ := z_bL_inv he; exact lv_land hx hb hd (K ls hl)
  · obtain ⟨x, y, r, rfl, rfl, rfl⟩ := z_bL_inv he; exact lv_lor hx hb hd (K ls hl)
  · obtain ⟨x, y, r, rfl, rfl, rfl⟩ := z_bL_inv he; exact lv_lxor hx hb hd (K ls hl)
  · obtain ⟨x, y, r, rfl, rfl, rfl⟩ := z_bS_inv he; exact lv_lshl hx hb hd rfl (K ls hl)
  · obtain ⟨x, y, r, rfl, rfl, rfl⟩ := z_bS_inv he; exact lv_lushr hx hb hd rfl (K ls hl)
  · obtain ⟨x, y, r, rfl, rfl, rfl⟩ := z_cmp_inv he; exact W.lcmp hx hb hd (K ls hl)
  · obtain ⟨x, r, rfl, rfl, rfl⟩ := z_i2l_inv he; exact lv_i2l hx hb hd rfl (K ls hl)
  · obtain ⟨x, r, rfl, rfl, rfl⟩ := z_l2i_inv he; exact lv_l2i hx hb hd rfl (K ls hl)
  · obtain ⟨v, r, rfl, h1, rfl, rfl⟩ := z_dup_inv he; exact lv_dup hx hb hd h1 (K ls hl)
  · rcases z_dup2_inv he with ⟨v, r, rfl, h1, rfl, rfl⟩ | ⟨v, w, r, rfl, h1, h2, rfl, rfl⟩
    · exact lv_dup2_2 hx hb hd h1 (K ls hl)
    · exact lv_dup2_11 hx hb hd h1 h2 (K ls hl)
  · obtain ⟨v, rfl, h1, rfl⟩ := z_pop_inv he; exact lv_pop hx hb hd h1 (K ls hl)
  · cases he
def z_run (nL : Nat) : List Instr → zLv → List Value → zO
  | [], lv, st => some (lv, st)
  | i :: is, lv, st => match z_1 nL i lv st with
    | some q => z_run nL is q.1 q.2
    | none => none
def z_pc : Nat → List Instr → Nat
  | pc, [] => pc
  | pc, i :: is => z_pc (pc + z_len i) is
def z_dec (cc : ByteArray) : Nat → List Instr → Bool
  | _, [] => true
  | pc, i :: is => decide (decode cc pc = .ok (i, z_len i)) && z_dec cc (pc + z_len i) is
theorem v_blk (g : zG F X y cc nL ret rm cn) : ∀ (is : List Instr) {pc pc' : Nat} {lv lv' : zLv} {st st' : List Value}, z_dec cc pc is = true → z_run nL is lv st = some (lv', st') → z_pc pc is = pc' → zV F X h pc' lv' st' → zV F X h pc lv st
  | [], pc, pc', lv, lv', st, st', _, he, hp, kk => by
    cases he
    cases hp
    exact kk
  | i :: is, pc, pc', lv, lv', st, st', hd, he, hp, kk => by
    unfold z_dec at hd
    rw [Bool.and_eq_true] at hd
    unfold z_run at he
    cases hq : z_1 nL i lv st with
    | none => rw [hq] at he; cases he
    | some q =>
      rw [hq] at he
      exact v_1 g (of_decide_eq_true hd.1) hq (v_blk g is hd.2 he hp kk)
/-- fewer locals, in any order: by their places -/
theorem v_lv (ks : List Nat) (hs : lv_pick lv ks = lv') (kk : zV F X h pc lv' st) : zV F X h pc lv st := by
  obtain ⟨l, D, dA, H0⟩ := F
  obtain ⟨p, e, R, s, m, args, below, meth, c, Q, nL'⟩ := X
  intro H locs ls k n hR hL hl
  exact kk H locs ls k n hR hL (lv_sub hl ks hs)
/-- a name for the heap -/
theorem v_h (kk : ∀ h' : zH, h' = h → zV F X h' pc lv st) : zV F X h pc lv st := kk h rfl
end VB
