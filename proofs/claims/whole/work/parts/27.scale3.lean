theorem wO_le {O : Nat → Int32} {v : Nat → Nat} {o : Nat} (hv9 : ∀ k, v k ≤ 9) (ho : o ≤ 9) (m : Nat) : wO O v o m ≤ 9 := by
  unfold wO
  split
  · exact ho
  · exact hv9 _

set_option maxRecDepth 100000 in
set_option maxHeartbeats 4000000 in
/-- Scale.weigh -/
theorem c_Sc_weigh {F : zF} {h : zH} {a wa la ha9 fa oc wo o : Nat} {wf lf hf O V : Nat → Int32} {ff : Nat → Int64} {v : Nat → Nat} (ha : h.1 a = some (oB 5 [.ref wa, .ref la, .ref ha9, .ref fa])) (hwa : h.1 wa = some (aI 14 wf)) (hla : h.1 la = some (aI 64 lf)) (hha : h.1 ha9 = some (aI 256 hf)) (hfa : h.1 fa = some (aJ 55 ff)) (hoc : h.1 oc = some (aI 14 O)) (hwo : h.1 wo = some (aI 4 V)) (hne : oc ≠ wa) (hO : ∀ m, m < 14 → (O m < 0 ∨ ∃ k, k < 4 ∧ O m = nI k)) (hV : nIs V v 4) (hv9 : ∀ k, v k ≤ 9) (ho : o ≤ 9) : zMet F yX5_weigh cX5_weigh 6 none { frames := 3, cells := 0, slots := 0, locals := 90 } [.ref a, .ref oc, .ref wo, .int (nI o)] h (fun r h2 => r = none ∧ ∃ (w2 l2 f2 : Nat → Int32) (L2 : Nat → Int64), h2 = z_s (z_s (z_s (z_s h wa (aI 14 w2)) la (aI 64 l2)) ha9 (aI 256 f2)) fa (aJ 55 L2) ∧ nIs w2 (wO O v o) 14 ∧ nIs l2 (fun q => wS (wO O v o) 0 q 6) 64 ∧ nIs f2 (fun q => wS (wO O v o) 6 q 8) 256 ∧ okLow L2 (wO O v o)) := by
  refine zMet_of (lv := [(0, .ref a), (1, .ref oc), (2, .ref wo), (3, .int (nI o))]) (by decide) (by simp [lg_sl, Value.category]) rfl ?_
  intro X g z
  refine v_blk g [.iconst 0, .istore 4] (pc' := 3) (lv' := [(4, .int (0 : Int32)), (0, .ref a), (1, .ref oc), (2, .ref wo), (3, .int (nI o))]) (st' := []) (by decide +kernel) rfl rfl ?_
  have key : ∀ i, i ≤ 14 → ∀ w2 : Nat → Int32, nIs w2 (wO O v o) i → zV F X (z_s h wa (aI 14 w2)) 3 [(4, .int (nI i)), (0, .ref a), (1, .ref oc), (2, .ref wo), (3, .int (nI o))] [] := by
    refine z_up (P := fun i => ∀ w2 : Nat → Int32, nIs w2 (wO O v o) i → zV F X (z_s h wa (aI 14 w2)) 3 [(4, .int (nI i)), (0, .ref a), (1, .ref oc), (2, .ref wo), (3, .int (nI o))] []) 14 ?_ ?_
    · intro w2 hw2
      have a1 : (z_s h wa (aI 14 w2)).1 a = some (oB 5 [.ref wa, .ref la, .ref ha9, .ref fa]) := z_so ha (z_ne ha hwa rfl)
      have l1 : (z_s h wa (aI 14 w2)).1 la = some (aI 64 lf) := z_so hla (z_ne hla hwa rfl)
      have k1 : (z_s h wa (aI 14 w2)).1 ha9 = some (aI 256 hf) := z_so hha (z_ne hha hwa rfl)
      have f1 : (z_s h wa (aI 14 w2)).1 fa = some (aJ 55 ff) := z_so hfa (z_ne hfa hwa rfl)
      have hk : ∀ m, wO O v o m ≤ 9 := wO_le hv9 ho
      refine v_blk g [.iload 4, .bipush 14] (pc' := 7) (lv' := [(4, .int (nI 14)), (0, .ref a), (1, .ref oc), (2, .ref wo), (3, .int (nI o))]) (st' := [.int (14 : Int32), .int (nI 14)]) (by decide +kernel) rfl rfl ?_
      refine v_icmp_ge g (off := 49) (tgt := 56) (by decide +kernel) (by decide) (fun _ => ?_) (fun c => absurd c (fun q => q (by decide)))
      refine v_blk g [.aload_n 0, .aload_n 0] (pc' := 58) (lv' := [(4, .int (nI 14)), (0, .ref a), (1, .ref oc), (2, .ref wo), (3, .int (nI o))]) (st' := [.ref a, .ref a]) (by decide +kernel) rfl rfl ?_
      refine v_get g a1 fl_X5_17 rfl (by decide +kernel) ?_
      refine v_blk g [.iconst 0] (pc' := 62) (lv' := [(4, .int (nI 14)), (0, .ref a), (1, .ref oc), (2, .ref wo), (3, .int (nI o))]) (st' := [.int (0 : Int32), .ref la, .ref a]) (by decide +kernel) rfl rfl ?_
      refine v_callV g (rest := []) (c_Sc_fillSums (k := 6) (s := 0) a1 (z_s_self _ _ _) l1 (z_ne hwa hla rfl) hw2 (by decide) (by decide)) cl_X5_27 a1 rfl rfl (Nat.le_of_ble_eq_true rfl) (by decide +kernel) ⟨Nat.le_of_ble_eq_true rfl, Nat.le_of_ble_eq_true rfl⟩ (zcsn 0 0 rfl rfl (Nat.le_of_ble_eq_true rfl) (Nat.le_of_ble_eq_true rfl)) (fun v2 h2 hp9 => ?_)
      obtain ⟨rfl, l2, rfl, hl2⟩ := hp9
      show zV F X (z_s (z_s h wa (aI 14 w2)) la (aI 64 l2)) 65 [(4, .int (nI 14)), (0, .ref a), (1, .ref oc), (2, .ref wo), (3, .int (nI o))] []
      have a2 : (z_s (z_s h wa (aI 14 w2)) la (aI 64 l2)).1 a = some (oB 5 [.ref wa, .ref la, .ref ha9, .ref fa]) := z_so a1 (z_ne ha hla rfl)
      have w3 : (z_s (z_s h wa (aI 14 w2)) la (aI 64 l2)).1 wa = some (aI 14 w2) := z_so (z_s_self _ _ _) (z_ne hwa hla rfl)
      have k2 : (z_s (z_s h wa (aI 14 w2)) la (aI 64 l2)).1 ha9 = some (aI 256 hf) := z_so k1 (z_ne hha hla rfl)
      have f2 : (z_s (z_s h wa (aI 14 w2)) la (aI 64 l2)).1 fa = some (aJ 55 ff) := z_so f1 (z_ne hfa hla rfl)
      have l3 : (z_s (z_s h wa (aI 14 w2)) la (aI 64 l2)).1 la = some (aI 64 l2) := z_s_self _ _ _
      refine v_blk g [.aload_n 0, .aload_n 0] (pc' := 67) (lv' := [(4, .int (nI 14)), (0, .ref a), (1, .ref oc), (2, .ref wo), (3, .int (nI o))]) (st' := [.ref a, .ref a]) (by decide +kernel) rfl rfl ?_
      refine v_get g a2 fl_X5_20 rfl (by decide +kernel) ?_
      refine v_blk g [.bipush 6] (pc' := 72) (lv' := [(4, .int (nI 14)), (0, .ref a), (1, .ref oc), (2, .ref wo), (3, .int (nI o))]) (st' := [.int (6 : Int32), .ref ha9, .ref a]) (by decide +kernel) rfl rfl ?_
      refine v_callV g (rest := []) (c_Sc_fillSums (k := 8) (s := 6) a2 w3 k2 (z_ne hwa hha rfl) hw2 (by decide) (by decide)) cl_X5_27 a2 rfl rfl (Nat.le_of_ble_eq_true rfl) (by decide +kernel) ⟨Nat.le_of_ble_eq_true rfl, Nat.le_of_ble_eq_true rfl⟩ (zcsn 0 0 rfl rfl (Nat.le_of_ble_eq_true rfl) (Nat.le_of_ble_eq_true rfl)) (fun v2 h2 hp9 => ?_)
      obtain ⟨rfl, f3, rfl, hf3⟩ := hp9
      show zV F X (z_s (z_s (z_s h wa (aI 14 w2)) la (aI 64 l2)) ha9 (aI 256 f3)) 75 [(4, .int (nI 14)), (0, .ref a), (1, .ref oc), (2, .ref wo), (3, .int (nI o))] []
      have a3 : (z_s (z_s (z_s h wa (aI 14 w2)) la (aI 64 l2)) ha9 (aI 256 f3)).1 a = some (oB 5 [.ref wa, .ref la, .ref ha9, .ref fa]) := z_so a2 (z_ne ha hha rfl)
      have l4 : (z_s (z_s (z_s h wa (aI 14 w2)) la (aI 64 l2)) ha9 (aI 256 f3)).1 la = some (aI 64 l2) := z_so l3 (z_ne hla hha rfl)
      have f4 : (z_s (z_s (z_s h wa (aI 14 w2)) la (aI 64 l2)) ha9 (aI 256 f3)).1 fa = some (aJ 55 ff) := z_so f2 (z_ne hfa hha rfl)
      refine v_blk g [.aload_n 0] (pc' := 76) (lv' := [(4, .int (nI 14)), (0, .ref a), (1, .ref oc), (2, .ref wo), (3, .int (nI o))]) (st' := [.ref a]) (by decide +kernel) rfl rfl ?_
      refine v_callV g (rest := []) (c_Sc_fillLow a3 l4 f4 hl2 (fun n hn => by have := wS_le hk 0 n 6; omega)) cl_X5_31 a3 rfl rfl (Nat.le_of_ble_eq_true rfl) (by decide +kernel) ⟨Nat.le_of_ble_eq_true rfl, Nat.le_of_ble_eq_true rfl⟩ (zcsn 0 0 rfl rfl (Nat.le_of_ble_eq_true rfl) (Nat.le_of_ble_eq_true rfl)) (fun v2 h2 hp9 => ?_)
      obtain ⟨rfl, L2, rfl, hL2⟩ := hp9
      exact v_vret g z rfl (by decide +kernel) ⟨rfl, w2, l2, f3, L2, rfl, hw2, hl2, hf3, hL2⟩ (zcrn 0 0 rfl rfl (Nat.le_of_ble_eq_true rfl) (Nat.le_of_ble_eq_true rfl))
    · intro i hi ih w2 hw2
      refine v_blk g [.iload 4, .bipush 14] (pc' := 7) (lv' := [(4, .int (nI i)), (0, .ref a), (1, .ref oc), (2, .ref wo), (3, .int (nI o))]) (st' := [.int (14 : Int32), .int (nI i)]) (by decide +kernel) rfl rfl ?_
      refine v_icmp_ge g (off := 49) (tgt := 56) (by decide +kernel) (by decide) (fun c => absurd c (nI_ge (b := 14) hi (by decide))) (fun _ => ?_)
      refine v_blk g [.iload 4, .aload_n 1] (pc' := 13) (lv' := [(4, .int (nI i)), (0, .ref a), (1, .ref oc), (2, .ref wo), (3, .int (nI o))]) (st' := [.ref oc, .int (nI i)]) (by decide +kernel) rfl rfl ?_
      refine v_alen g (z_so hoc hne) (by decide) (by decide +kernel) ?_
      refine v_icmp_ge g (off := 42) (tgt := 56) (by decide +kernel) (by decide) (fun c => absurd c (nI_ge (b := 14) hi (by decide))) (fun _ => ?_)
      refine v_blk g [.aload_n 1, .iload 4] (pc' := 20) (lv' := [(4, .int (nI i)), (0, .ref a), (1, .ref oc), (2, .ref wo), (3, .int (nI o))]) (st' := [.int (nI i), .ref oc]) (by decide +kernel) rfl rfl ?_
      refine v_iald g (z_so hoc hne) i rfl hi (Nat.le_of_ble_eq_true rfl) (by decide +kernel) ?_
      refine v_blk g [.istore 5, .aload_n 0] (pc' := 24) (lv' := [(5, .int (O i)), (4, .int (nI i)), (0, .ref a), (1, .ref oc), (2, .ref wo), (3, .int (nI o))]) (st' := [.ref a]) (by decide +kernel) rfl rfl ?_
      refine v_get g (z_so ha (z_ne ha hwa rfl)) fl_X5_11 rfl (by decide +kernel) ?_
      refine v_blk g [.iload 4, .iload 5] (pc' := 31) (lv' := [(5, .int (O i)), (4, .int (nI i)), (0, .ref a), (1, .ref oc), (2, .ref wo), (3, .int (nI o))]) (st' := [.int (O i), .int (nI i), .ref wa]) (by decide +kernel) rfl rfl ?_
      refine v_if_lt g (off := 17) (tgt := 48) (by decide +kernel) (by decide) (fun c => ?_) (fun c => ?_)
      · refine v_blk g [.iload_n 3] (pc' := 49) (lv' := [(5, .int (O i)), (4, .int (nI i)), (0, .ref a), (1, .ref oc), (2, .ref wo), (3, .int (nI o))]) (st' := [.int (nI o), .int (nI i), .ref wa]) (by decide +kernel) rfl rfl ?_
        refine v_iast g (z_s_self _ _ _) i rfl hi (Nat.le_of_ble_eq_true rfl) (by decide +kernel) ?_
        refine v_h (fun h1 eh1 => ?_)
        have h1_c : h1.2.1 = h.2.1 + 0 ∧ h1.2.2 = h.2.2 + 0 := zcs eh1 ⟨rfl, rfl⟩
        have h1_a : h1.1 a = some (oB 5 [.ref wa, .ref la, .ref ha9, .ref fa]) := by rw [eh1]; exact z_so (z_so ha (z_ne ha hwa rfl)) (z_ne ha hwa rfl)
        have h1_wa : h1.1 wa = some (aI 14 (upd w2 i (nI o))) := by rw [eh1]; exact z_s_self _ _ _
        have h1_oc : h1.1 oc = some (aI 14 O) := by rw [eh1]; exact z_so (z_so hoc hne) hne
        have h1_wo : h1.1 wo = some (aI 4 V) := by rw [eh1]; exact z_so (z_so hwo (z_ne hwo hwa rfl)) (z_ne hwo hwa rfl)
        refine v_blk g [.iinc 4 1] (pc' := 53) (lv' := [(4, .int ((nI i) + (1 : Int32))), (5, .int (O i)), (0, .ref a), (1, .ref oc), (2, .ref wo), (3, .int (nI o))]) (st' := []) (by decide +kernel) rfl rfl ?_
        refine v_goto g (off := -50) (tgt := 3) (by decide +kernel) (by decide) ?_
        refine v_lv [0, 2, 3, 4, 5] (lv' := [(4, .int ((nI i) + (1 : Int32))), (0, .ref a), (1, .ref oc), (2, .ref wo), (3, .int (nI o))]) rfl ?_
        refine v_eqh (h' := z_s h wa (aI 14 (upd w2 i (nI o)))) (by rw [eh1, z_ss]) ?_
        refine v_eq (by rw [nI_1]) rfl (ih _ (fun q hq => ?_))
        by_cases hqi : q = i
        · subst hqi; rw [pk_us]; rw [wO, if_pos c]
        · rw [pk_un hqi]; exact hw2 q (by omega)
      · obtain ⟨k, hk, ek⟩ := (hO i hi).resolve_left c
        refine v_blk g [.iload 5, .aload_n 2] (pc' := 37) (lv' := [(5, .int (O i)), (4, .int (nI i)), (0, .ref a), (1, .ref oc), (2, .ref wo), (3, .int (nI o))]) (st' := [.ref wo, .int (O i), .int (nI i), .ref wa]) (by decide +kernel) rfl rfl ?_
        refine v_alen g (z_so hwo (z_ne hwo hwa rfl)) (by decide) (by decide +kernel) ?_
        refine v_ti (z := (4 : Int32)) (rfl) ?_
        refine v_icmp_ge g (off := 10) (tgt := 48) (by decide +kernel) (by decide) (fun c => absurd c (by rw [ek]; exact nI_ge (b := 4) hk (by decide))) (fun _ => ?_)
        refine v_blk g [.aload_n 2, .iload 5] (pc' := 44) (lv' := [(5, .int (O i)), (4, .int (nI i)), (0, .ref a), (1, .ref oc), (2, .ref wo), (3, .int (nI o))]) (st' := [.int (O i), .ref wo, .int (nI i), .ref wa]) (by decide +kernel) rfl rfl ?_
        refine v_iald g (z_so hwo (z_ne hwo hwa rfl)) k ek hk (Nat.le_of_ble_eq_true rfl) (by decide +kernel) ?_
        refine v_goto g (off := 4) (tgt := 49) (by decide +kernel) (by decide) ?_
        refine v_ti (z := nI (v k)) (hV k hk) ?_
        refine v_iast g (z_s_self _ _ _) i rfl hi (Nat.le_of_ble_eq_true rfl) (by decide +kernel) ?_
        refine v_h (fun h1 eh1 => ?_)
        have h1_c : h1.2.1 = h.2.1 + 0 ∧ h1.2.2 = h.2.2 + 0 := zcs eh1 ⟨rfl, rfl⟩
        have h1_a : h1.1 a = some (oB 5 [.ref wa, .ref la, .ref ha9, .ref fa]) := by rw [eh1]; exact z_so (z_so ha (z_ne ha hwa rfl)) (z_ne ha hwa rfl)
        have h1_wa : h1.1 wa = some (aI 14 (upd w2 i (nI (v k)))) := by rw [eh1]; exact z_s_self _ _ _
        have h1_oc : h1.1 oc = some (aI 14 O) := by rw [eh1]; exact z_so (z_so hoc hne) hne
        have h1_wo : h1.1 wo = some (aI 4 V) := by rw [eh1]; exact z_so (z_so hwo (z_ne hwo hwa rfl)) (z_ne hwo hwa rfl)
        refine v_blk g [.iinc 4 1] (pc' := 53) (lv' := [(4, .int ((nI i) + (1 : Int32))), (5, .int (O i)), (0, .ref a), (1, .ref oc), (2, .ref wo), (3, .int (nI o))]) (st' := []) (by decide +kernel) rfl rfl ?_
        refine v_goto g (off := -50) (tgt := 3) (by decide +kernel) (by decide) ?_
        refine v_lv [0, 2, 3, 4, 5] (lv' := [(4, .int ((nI i) + (1 : Int32))), (0, .ref a), (1, .ref oc), (2, .ref wo), (3, .int (nI o))]) rfl ?_
        refine v_eqh (h' := z_s h wa (aI 14 (upd w2 i (nI (v k))))) (by rw [eh1, z_ss]) ?_
        refine v_eq (by rw [nI_1]) rfl (ih _ (fun q hq => ?_))
        by_cases hqi : q = i
        · subst hqi; rw [pk_us]; rw [wO, if_neg c, ek, nI_clamp (by omega)]
        · rw [pk_un hqi]; exact hw2 q (by omega)
  exact v_eqh (z_sid hwa).symm (key 0 (Nat.zero_le _) wf (fun q hq => absurd hq (Nat.not_lt_zero q)))
