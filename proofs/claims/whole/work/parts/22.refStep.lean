set_option maxHeartbeats 4000000 in
set_option maxRecDepth 100000 in
/-- word -/
theorem r_word (l : Launch) (dC : Nat → ClassId) (dI : Nat → Nat → Nat) (sz : Nat) (h ac au ab ae am ap ak al af an ar : Nat) (cJ : ClassId) (sz0 mm sm : Int32) (bl : Nat → Int32) (k : Nat) (hk : k < 16) : Met l yX2_word wsX2_word ({ frames := 0, cells := 0, slots := 0, locals := 0 }) (va_Pc [.ref h, .int (nI k)] (fun U => U.heap.size = sz ∧ va_P (dC, dI) vwCl [(h, .inr (2, [.ref ac, .ref au, .ref ab, .ref ae, .ref am, .ref ap, .int sz0, .ref ak, .ref al, .ref af, .ref an, .int mm, .ref ar, .int sm])), (al, .inl (cJ, 64, .inl bl))] U.heap ∧ va_K (dC, dI) vwCl [(cJ, .int)] U ∧ va_D (fun _ => True) [(h, .inr (2, [.ref ac, .ref au, .ref ab, .ref ae, .ref am, .ref ap, .int sz0, .ref ak, .ref al, .ref af, .ref an, .int mm, .ref ar, .int sm])), (al, .inl (cJ, 64, .inl bl))])) (vp_Si (fun r => r = ks_lw bl k)) 0 0 (fun _ => False) := by
  refine Met.ofW (cc := cX2_word) (maxL := 2) (ret := (some .int)) (by decide) rfl ?_
  intro p e s m args below meth c s₁ B hml hv
  obtain ⟨rfl, hsz, hP, hK, hD0⟩ := hv
  have hx := B.exec
  have hb := B.bytes
  have hr := B.returns
  have hts := atoms_spec (ws := wsX2_word) B.pre
  have hown : s.vm.findClass RX2 = some m.cls := findClass_of_methodNamed B.named
  have hlocks := B.notSynchronized
  subst hsz
  have hD := hD0.self (sz := s.heap.size)
  generalize hAe : va_A [(h, .inr (2, [.ref ac, .ref au, .ref ab, .ref ae, .ref am, .ref ap, .int sz0, .ref ak, .ref al, .ref af, .ref an, .int mm, .ref ar, .int sm])), (al, .inl (cJ, 64, .inl bl))] s.heap.size = A at hD  ⊢
  have hA : ∀ q : Nat, s.heap.size ≤ q → A q := fun q h => by rw [← hAe]; exact Or.inr h
  have hS : va_S A s.heap s.heap [] := va_S.rf
  have hP : va_P (dC, dI) vwCl [(h, .inr (2, [.ref ac, .ref au, .ref ab, .ref ae, .ref am, .ref ap, .int sz0, .ref ak, .ref al, .ref af, .ref an, .int mm, .ref ar, .int sm])), (al, .inl (cJ, 64, .inl bl))] s.heap := hP
  have hl := lv_entry ([.ref h, .int (nI k)]) (n := 2) (Nat.le_of_ble_eq_true rfl)
  rw [lg_entry_eq]
  generalize (lg_sl ([.ref h, .int (nI k)]) ++ List.replicate (2 - (lg_sl ([.ref h, .int (nI k)])).length) Slot.unset).toArray = ls at hl ⊢
  have hl : lv_has ls 2 [(0, .ref h), (1, .int (nI k))] := hl
  refine lv_aload_n hx hb dX2_word_0 rfl (lv_at hl 0 rfl) ?_
  refine va_get (D := (dC, dI)) (ci := 2) (v := .ref al) (C := RX2) (T := TX2) (N := 14) hx hb hts (by decide +kernel) hown hK hP 0 rfl rfl 8 (by decide) (hts (.fieldLink RX2 99 "KeySumsModel" "block" "[I") (by decide +kernel)) (fun _ h9 => h9) rfl dX2_word_1 ?_
  refine lv_iconst (v := 4) hx hb dX2_word_4 (by decide) ?_
  refine lv_iload_n hx hb dX2_word_5 rfl (lv_at hl 1 rfl) ?_
  refine lv_imul hx hb dX2_word_6 ?_
  refine kz_top (y := nI (4 * k)) (pk_mul 4 k) ?_
  refine kz_iald (j := (4 * k)) hx hb hK hP 1 0 rfl rfl (show 4 * k + 0 < 64 by omega) (by decide) dX2_word_7 ?_
  refine lv_aload_n hx hb dX2_word_8 rfl (lv_at hl 0 rfl) ?_
  refine va_get (D := (dC, dI)) (ci := 2) (v := .ref al) (C := RX2) (T := TX2) (N := 14) hx hb hts (by decide +kernel) hown hK hP 0 rfl rfl 8 (by decide) (hts (.fieldLink RX2 99 "KeySumsModel" "block" "[I") (by decide +kernel)) (fun _ h9 => h9) rfl dX2_word_9 ?_
  refine lv_iconst (v := 4) hx hb dX2_word_12 (by decide) ?_
  refine lv_iload_n hx hb dX2_word_13 rfl (lv_at hl 1 rfl) ?_
  refine lv_imul hx hb dX2_word_14 ?_
  refine kz_top (y := nI (4 * k)) (pk_mul 4 k) ?_
  refine lv_iconst (v := 1) hx hb dX2_word_15 (by decide) ?_
  refine lv_iadd hx hb dX2_word_16 ?_
  refine kz_top (y := nI (4 * k + 1)) (nI_add (4 * k) 1) ?_
  refine kz_iald (j := (4 * k + 1)) hx hb hK hP 1 0 rfl rfl (show 4 * k + 1 < 64 by omega) (by decide) dX2_word_17 ?_
  refine lv_bipush (v := 8) hx hb dX2_word_18 (by decide) ?_
  refine lv_ishl hx hb dX2_word_20 ?_
  refine lv_ior hx hb dX2_word_21 ?_
  refine lv_aload_n hx hb dX2_word_22 rfl (lv_at hl 0 rfl) ?_
  refine va_get (D := (dC, dI)) (ci := 2) (v := .ref al) (C := RX2) (T := TX2) (N := 14) hx hb hts (by decide +kernel) hown hK hP 0 rfl rfl 8 (by decide) (hts (.fieldLink RX2 99 "KeySumsModel" "block" "[I") (by decide +kernel)) (fun _ h9 => h9) rfl dX2_word_23 ?_
  refine lv_iconst (v := 4) hx hb dX2_word_26 (by decide) ?_
  refine lv_iload_n hx hb dX2_word_27 rfl (lv_at hl 1 rfl) ?_
  refine lv_imul hx hb dX2_word_28 ?_
  refine kz_top (y := nI (4 * k)) (pk_mul 4 k) ?_
  refine lv_iconst (v := 2) hx hb dX2_word_29 (by decide) ?_
  refine lv_iadd hx hb dX2_word_30 ?_
  refine kz_top (y := nI (4 * k + 2)) (nI_add (4 * k) 2) ?_
  refine kz_iald (j := (4 * k + 2)) hx hb hK hP 1 0 rfl rfl (show 4 * k + 2 < 64 by omega) (by decide) dX2_word_31 ?_
  refine lv_bipush (v := 16) hx hb dX2_word_32 (by decide) ?_
  refine lv_ishl hx hb dX2_word_34 ?_
  refine lv_ior hx hb dX2_word_35 ?_
  refine lv_aload_n hx hb dX2_word_36 rfl (lv_at hl 0 rfl) ?_
  refine va_get (D := (dC, dI)) (ci := 2) (v := .ref al) (C := RX2) (T := TX2) (N := 14) hx hb hts (by decide +kernel) hown hK hP 0 rfl rfl 8 (by decide) (hts (.fieldLink RX2 99 "KeySumsModel" "block" "[I") (by decide +kernel)) (fun _ h9 => h9) rfl dX2_word_37 ?_
  refine lv_iconst (v := 4) hx hb dX2_word_40 (by decide) ?_
  refine lv_iload_n hx hb dX2_word_41 rfl (lv_at hl 1 rfl) ?_
  refine lv_imul hx hb dX2_word_42 ?_
  refine kz_top (y := nI (4 * k)) (pk_mul 4 k) ?_
  refine lv_iconst (v := 3) hx hb dX2_word_43 (by decide) ?_
  refine lv_iadd hx hb dX2_word_44 ?_
  refine kz_top (y := nI (4 * k + 3)) (nI_add (4 * k) 3) ?_
  refine kz_iald (j := (4 * k + 3)) hx hb hK hP 1 0 rfl rfl (show 4 * k + 3 < 64 by omega) (by decide) dX2_word_45 ?_
  refine lv_bipush (v := 24) hx hb dX2_word_46 (by decide) ?_
  refine lv_ishl hx hb dX2_word_48 ?_
  refine lv_ior hx hb dX2_word_49 ?_
  exact W.iret (v := ((((bl (4 * k)) ||| ((bl (4 * k + 1)) <<< (8 &&& 31))) ||| ((bl (4 * k + 2)) <<< (16 &&& 31))) ||| ((bl (4 * k + 3)) <<< (24 &&& 31)))) hx hb hr (fun t ht hW => ⟨((((bl (4 * k)) ||| ((bl (4 * k + 1)) <<< (8 &&& 31))) ||| ((bl (4 * k + 2)) <<< (16 &&& 31))) ||| ((bl (4 * k + 3)) <<< (24 &&& 31))), rfl, rfl, ht⟩) (fun q h => by cases h) dX2_word_50

set_option maxHeartbeats 4000000 in
set_option maxRecDepth 100000 in
/-- mixed -/
theorem r_mixed (l : Launch) (dC : Nat → ClassId) (dI : Nat → Nat → Nat) (sz : Nat) (h ac au ab ae am ap ak al af an ar : Nat) (cJ : ClassId) (sz0 mm sm : Int32) (fn : Nat → Int32) (k : Nat) (hk : k < 4) : Met l yX2_mixed wsX2_mixed ({ frames := 0, cells := 0, slots := 0, locals := 0 }) (va_Pc [.ref h, .int (nI k)] (fun U => U.heap.size = sz ∧ va_P (dC, dI) vwCl [(h, .inr (2, [.ref ac, .ref au, .ref ab, .ref ae, .ref am, .ref ap, .int sz0, .ref ak, .ref al, .ref af, .ref an, .int mm, .ref ar, .int sm])), (an, .inl (cJ, 4, .inl fn))] U.heap ∧ va_K (dC, dI) vwCl [(cJ, .int)] U ∧ va_D (fun _ => True) [(h, .inr (2, [.ref ac, .ref au, .ref ab, .ref ae, .ref am, .ref ap, .int sz0, .ref ak, .ref al, .ref af, .ref an, .int mm, .ref ar, .int sm])), (an, .inl (cJ, 4, .inl fn))])) (vp_Si (fun r => r = ks_F k (fn 1) (fn 2) (fn 3))) 0 0 (fun _ => False) := by
  refine Met.ofW (cc := cX2_mixed) (maxL := 5) (ret := (some .int)) (by decide) rfl ?_
  intro p e s m args below meth c s₁ B hml hv
  obtain ⟨rfl, hsz, hP, hK, hD0⟩ := hv
  have hx := B.exec
  have hb := B.bytes
  have hr := B.returns
  have hts := atoms_spec (ws := wsX2_mixed) B.pre
  have hown : s.vm.findClass RX2 = some m.cls := findClass_of_methodNamed B.named
  have hlocks := B.notSynchronized
  subst hsz
  have hD := hD0.self (sz := s.heap.size)
  generalize hAe : va_A [(h, .inr (2, [.ref ac, .ref au, .ref ab, .ref ae, .ref am, .ref ap, .int sz0, .ref ak, .ref al, .ref af, .ref an, .int mm, .ref ar, .int sm])), (an, .inl (cJ, 4, .inl fn))] s.heap.size = A at hD  ⊢
  have hA : ∀ q : Nat, s.heap.size ≤ q → A q := fun q h => by rw [← hAe]; exact Or.inr h
  have hS : va_S A s.heap s.heap [] := va_S.rf
  have hP : va_P (dC, dI) vwCl [(h, .inr (2, [.ref ac, .ref au, .ref ab, .ref ae, .ref am, .ref ap, .int sz0, .ref ak, .ref al, .ref af, .ref an, .int mm, .ref ar, .int sm])), (an, .inl (cJ, 4, .inl fn))] s.heap := hP
  have hl := lv_entry ([.ref h, .int (nI k)]) (n := 5) (Nat.le_of_ble_eq_true rfl)
  rw [lg_entry_eq]
  generalize (lg_sl ([.ref h, .int (nI k)]) ++ List.replicate (5 - (lg_sl ([.ref h, .int (nI k)])).length) Slot.unset).toArray = ls at hl ⊢
  have hl : lv_has ls 5 [(0, .ref h), (1, .int (nI k))] := hl
  refine lv_aload_n hx hb dX2_mixed_0 rfl (lv_at hl 0 rfl) ?_
  refine va_get (D := (dC, dI)) (ci := 2) (v := .ref an) (C := RX2) (T := TX2) (N := 14) hx hb hts (by decide +kernel) hown hK hP 0 rfl rfl 10 (by decide) (hts (.fieldLink RX2 105 "KeySumsModel" "now" "[I") (by decide +kernel)) (fun _ h9 => h9) rfl dX2_mixed_1 ?_
  refine lv_iconst (v := 1) hx hb dX2_mixed_4 (by decide) ?_
  refine kz_top (y := nI 1) (by decide) ?_
  refine kz_iald (j := 1) hx hb hK hP 1 0 rfl rfl (show 1 < 4 by decide) (by decide) dX2_mixed_5 ?_
  refine lv_istore_n (lv' := [(2, .int (fn 1)), (0, .ref h), (1, .int (nI k))]) hx hb dX2_mixed_6 rfl hl (by decide) rfl (fun ls hl => ?_)
  refine lv_aload_n hx hb dX2_mixed_7 rfl (lv_at hl 1 rfl) ?_
  refine va_get (D := (dC, dI)) (ci := 2) (v := .ref an) (C := RX2) (T := TX2) (N := 14) hx hb hts (by decide +kernel) hown hK hP 0 rfl rfl 10 (by decide) (hts (.fieldLink RX2 105 "KeySumsModel" "now" "[I") (by decide +kernel)) (fun _ h9 => h9) rfl dX2_mixed_8 ?_
  refine lv_iconst (v := 2) hx hb dX2_mixed_11 (by decide) ?_
  refine kz_top (y := nI 2) (by decide) ?_
  refine kz_iald (j := 2) hx hb hK hP 1 0 rfl rfl (show 2 < 4 by decide) (by decide) dX2_mixed_12 ?_
  refine lv_istore_n (lv' := [(3, .int (fn 2)), (2, .int (fn 1)), (0, .ref h), (1, .int (nI k))]) hx hb dX2_mixed_13 rfl hl (by decide) rfl (fun ls hl => ?_)
  refine lv_aload_n hx hb dX2_mixed_14 rfl (lv_at hl 2 rfl) ?_
  refine va_get (D := (dC, dI)) (ci := 2) (v := .ref an) (C := RX2) (T := TX2) (N := 14) hx hb hts (by decide +kernel) hown hK hP 0 rfl rfl 10 (by decide) (hts (.fieldLink RX2 105 "KeySumsModel" "now" "[I") (by decide +kernel)) (fun _ h9 => h9) rfl dX2_mixed_15 ?_
  refine lv_iconst (v := 3) hx hb dX2_mixed_18 (by decide) ?_
  refine kz_top (y := nI 3) (by decide) ?_
  refine kz_iald (j := 3) hx hb hK hP 1 0 rfl rfl (show 3 < 4 by decide) (by decide) dX2_mixed_19 ?_
  refine lv_istore (lv' := [(4, .int (fn 3)), (3, .int (fn 2)), (2, .int (fn 1)), (0, .ref h), (1, .int (nI k))]) hx hb dX2_mixed_20 hl (by decide) rfl (fun ls hl => ?_)
  obtain rfl | rfl | rfl | rfl : k = 0 ∨ k = 1 ∨ k = 2 ∨ k = 3 := by omega
  · skip
    refine lv_iload_n hx hb dX2_mixed_22 rfl (lv_at hl 4 rfl) ?_
    refine lv_tableIn (off := 25) (tgt := 48) hx hb dX2_mixed_23 (by decide +kernel) (by decide +kernel) (by decide +kernel) (by decide) ?_
    refine lv_iload_n hx hb dX2_mixed_48 rfl (lv_at hl 2 rfl) ?_
    refine lv_iload_n hx hb dX2_mixed_49 rfl (lv_at hl 1 rfl) ?_
    refine lv_iand hx hb dX2_mixed_50 ?_
    refine lv_iload_n hx hb dX2_mixed_51 rfl (lv_at hl 2 rfl) ?_
    refine lv_iconst (v := (-1)) hx hb dX2_mixed_52 (by decide) ?_
    refine lv_ixor hx hb dX2_mixed_53 ?_
    refine lv_iload hx hb dX2_mixed_54 (lv_at hl 0 rfl) ?_
    refine lv_iand hx hb dX2_mixed_56 ?_
    refine lv_ior hx hb dX2_mixed_57 ?_
    exact W.iret (v := (((fn 1) &&& (fn 2)) ||| (((fn 1) ^^^ (-1)) &&& (fn 3)))) hx hb hr (fun t ht hW => ⟨(((fn 1) &&& (fn 2)) ||| (((fn 1) ^^^ (-1)) &&& (fn 3))), rfl, rfl, ht⟩) (fun q h => by cases h) dX2_mixed_58
  · skip
    refine lv_iload_n hx hb dX2_mixed_22 rfl (lv_at hl 4 rfl) ?_
    refine lv_tableIn (off := 36) (tgt := 59) hx hb dX2_mixed_23 (by decide +kernel) (by decide +kernel) (by decide +kernel) (by decide) ?_
    refine lv_iload hx hb dX2_mixed_59 (lv_at hl 0 rfl) ?_
    refine lv_iload_n hx hb dX2_mixed_61 rfl (lv_at hl 2 rfl) ?_
    refine lv_iand hx hb dX2_mixed_62 ?_
    refine lv_iload hx hb dX2_mixed_63 (lv_at hl 0 rfl) ?_
    refine lv_iconst (v := (-1)) hx hb dX2_mixed_65 (by decide) ?_
    refine lv_ixor hx hb dX2_mixed_66 ?_
    refine lv_iload_n hx hb dX2_mixed_67 rfl (lv_at hl 1 rfl) ?_
    refine lv_iand hx hb dX2_mixed_68 ?_
    refine lv_ior hx hb dX2_mixed_69 ?_
    exact W.iret (v := (((fn 3) &&& (fn 1)) ||| (((fn 3) ^^^ (-1)) &&& (fn 2)))) hx hb hr (fun t ht hW => ⟨(((fn 3) &&& (fn 1)) ||| (((fn 3) ^^^ (-1)) &&& (fn 2))), rfl, rfl, ht⟩) (fun q h => by cases h) dX2_mixed_70
  · skip
    refine lv_iload_n hx hb dX2_mixed_22 rfl (lv_at hl 4 rfl) ?_
    refine lv_tableIn (off := 48) (tgt := 71) hx hb dX2_mixed_23 (by decide +kernel) (by decide +kernel) (by decide +kernel) (by decide) ?_
    refine lv_iload_n hx hb dX2_mixed_71 rfl (lv_at hl 2 rfl) ?_
    refine lv_iload_n hx hb dX2_mixed_72 rfl (lv_at hl 1 rfl) ?_
    refine lv_ixor hx hb dX2_mixed_73 ?_
    refine lv_iload hx hb dX2_mixed_74 (lv_at hl 0 rfl) ?_
    refine lv_ixor hx hb dX2_mixed_76 ?_
    exact W.iret (v := (((fn 1) ^^^ (fn 2)) ^^^ (fn 3))) hx hb hr (fun t ht hW => ⟨(((fn 1) ^^^ (fn 2)) ^^^ (fn 3)), rfl, rfl, ht⟩) (fun q h => by cases h) dX2_mixed_77
  · skip
    refine lv_iload_n hx hb dX2_mixed_22 rfl (lv_at hl 4 rfl) ?_
    refine lv_tableOut (tgt := 78) hx hb dX2_mixed_23 (Or.inr (by decide +kernel)) (by decide) ?_
    refine lv_iload_n hx hb dX2_mixed_78 rfl (lv_at hl 1 rfl) ?_
    refine lv_iload_n hx hb dX2_mixed_79 rfl (lv_at hl 2 rfl) ?_
    refine lv_iload hx hb dX2_mixed_80 (lv_at hl 0 rfl) ?_
    refine lv_iconst (v := (-1)) hx hb dX2_mixed_82 (by decide) ?_
    refine lv_ixor hx hb dX2_mixed_83 ?_
    refine lv_ior hx hb dX2_mixed_84 ?_
    refine lv_ixor hx hb dX2_mixed_85 ?_
    exact W.iret (v := ((fn 2) ^^^ ((fn 1) ||| ((fn 3) ^^^ (-1))))) hx hb hr (fun t ht hW => ⟨((fn 2) ^^^ ((fn 1) ||| ((fn 3) ^^^ (-1)))), rfl, rfl, ht⟩) (fun q h => by cases h) dX2_mixed_86

theorem ks_gb {i : Nat} (hi : i < 64) : ks_tm (i / 16) * i + ks_mo (i / 16) < 2 ^ 31 := by
  have hk : i / 16 < 4 := by omega
  generalize i / 16 = k at hk ⊢
  obtain rfl | rfl | rfl | rfl : k = 0 ∨ k = 1 ∨ k = 2 ∨ k = 3 := by omega
  · show 1 * i + 0 < _
    omega
  · show 5 * i + 1 < _
    omega
  · show 3 * i + 5 < _
    omega
  · show 7 * i + 0 < _
    omega

set_option maxHeartbeats 4000000 in
set_option maxRecDepth 100000 in
/-- step -/
theorem r_step (l : Launch) (dC : Nat → ClassId) (dI : Nat → Nat → Nat) (sz : Nat) (h ac au ab ae am ap ak al af an ar : Nat) (cJ : ClassId) (sz0 mm sm : Int32) (bl fn : Nat → Int32) (i : Nat) (hi : i < 64) : Met l yX2_step wsX2_step ({ frames := 1, cells := 0, slots := 0, locals := 24 }) (va_Pc [.ref h, .int (nI i)] (fun U => U.heap.size = sz ∧ va_P (dC, dI) vwCl [(h, .inr (2, [.ref ac, .ref au, .ref ab, .ref ae, .ref am, .ref ap, .int sz0, .ref ak, .ref al, .ref af, .ref an, .int mm, .ref ar, .int sm])), (ac, .inl (cJ, 64, .inl ks_k)), (au, .inl (cJ, 16, .inl ks_tt)), (ae, .inl (cJ, 4, .inl ks_tmI)), (am, .inl (cJ, 4, .inl ks_moI)), (al, .inl (cJ, 64, .inl bl)), (an, .inl (cJ, 4, .inl fn))] U.heap ∧ va_K (dC, dI) vwCl [(cJ, .int)] U ∧ va_D (fun _ => True) [(h, .inr (2, [.ref ac, .ref au, .ref ab, .ref ae, .ref am, .ref ap, .int sz0, .ref ak, .ref al, .ref af, .ref an, .int mm, .ref ar, .int sm])), (ac, .inl (cJ, 64, .inl ks_k)), (au, .inl (cJ, 16, .inl ks_tt)), (ae, .inl (cJ, 4, .inl ks_tmI)), (am, .inl (cJ, 4, .inl ks_moI)), (al, .inl (cJ, 64, .inl bl)), (an, .inl (cJ, 4, .inl fn))])) (va_Qv (fun u : Nat → Int32 => ks_4 u = ks_st (ks_lw bl) i (ks_4 fn)) (fun (u : Nat → Int32) t => kz_B dC dI [(cJ, .int)] (va_A [(h, .inr (2, [.ref ac, .ref au, .ref ab, .ref ae, .ref am, .ref ap, .int sz0, .ref ak, .ref al, .ref af, .ref an, .int mm, .ref ar, .int sm])), (ac, .inl (cJ, 64, .inl ks_k)), (au, .inl (cJ, 16, .inl ks_tt)), (ae, .inl (cJ, 4, .inl ks_tmI)), (am, .inl (cJ, 4, .inl ks_moI)), (al, .inl (cJ, 64, .inl bl)), (an, .inl (cJ, 4, .inl fn))] sz) [(h, .inr (2, [.ref ac, .ref au, .ref ab, .ref ae, .ref am, .ref ap, .int sz0, .ref ak, .ref al, .ref af, .ref an, .int mm, .ref ar, .int sm])), (ac, .inl (cJ, 64, .inl ks_k)), (au, .inl (cJ, 16, .inl ks_tt)), (ae, .inl (cJ, 4, .inl ks_tmI)), (am, .inl (cJ, 4, .inl ks_moI)), (al, .inl (cJ, 64, .inl bl)), (an, .inl (cJ, 4, .inl u))] t) (va_A [(h, .inr (2, [.ref ac, .ref au, .ref ab, .ref ae, .ref am, .ref ap, .int sz0, .ref ak, .ref al, .ref af, .ref an, .int mm, .ref ar, .int sm])), (ac, .inl (cJ, 64, .inl ks_k)), (au, .inl (cJ, 16, .inl ks_tt)), (ae, .inl (cJ, 4, .inl ks_tmI)), (am, .inl (cJ, 4, .inl ks_moI)), (al, .inl (cJ, 64, .inl bl)), (an, .inl (cJ, 4, .inl fn))] sz)) 0 0 (va_A [(h, .inr (2, [.ref ac, .ref au, .ref ab, .ref ae, .ref am, .ref ap, .int sz0, .ref ak, .ref al, .ref af, .ref an, .int mm, .ref ar, .int sm])), (ac, .inl (cJ, 64, .inl ks_k)), (au, .inl (cJ, 16, .inl ks_tt)), (ae, .inl (cJ, 4, .inl ks_tmI)), (am, .inl (cJ, 4, .inl ks_moI)), (al, .inl (cJ, 64, .inl bl)), (an, .inl (cJ, 4, .inl fn))] sz) := by
  refine Met.ofW (cc := cX2_step) (maxL := 5) (ret := none) (by decide) rfl ?_
  intro p e s m args below meth c s₁ B hml hv
  obtain ⟨rfl, hsz, hP, hK, hD0⟩ := hv
  have hx := B.exec
  have hb := B.bytes
  have hr := B.returns
  have hts := atoms_spec (ws := wsX2_step) B.pre
  have hown : s.vm.findClass RX2 = some m.cls := findClass_of_methodNamed B.named
  have hlocks := B.notSynchronized
  subst hsz
  have hD := hD0.self (sz := s.heap.size)
  generalize hAe : va_A [(h, .inr (2, [.ref ac, .ref au, .ref ab, .ref ae, .ref am, .ref ap, .int sz0, .ref ak, .ref al, .ref af, .ref an, .int mm, .ref ar, .int sm])), (ac, .inl (cJ, 64, .inl ks_k)), (au, .inl (cJ, 16, .inl ks_tt)), (ae, .inl (cJ, 4, .inl ks_tmI)), (am, .inl (cJ, 4, .inl ks_moI)), (al, .inl (cJ, 64, .inl bl)), (an, .inl (cJ, 4, .inl fn))] s.heap.size = A at hD  ⊢
  have hA : ∀ q : Nat, s.heap.size ≤ q → A q := fun q h => by rw [← hAe]; exact Or.inr h
  have hS : va_S A s.heap s.heap [] := va_S.rf
  have hP : va_P (dC, dI) vwCl [(h, .inr (2, [.ref ac, .ref au, .ref ab, .ref ae, .ref am, .ref ap, .int sz0, .ref ak, .ref al, .ref af, .ref an, .int mm, .ref ar, .int sm])), (ac, .inl (cJ, 64, .inl ks_k)), (au, .inl (cJ, 16, .inl ks_tt)), (ae, .inl (cJ, 4, .inl ks_tmI)), (am, .inl (cJ, 4, .inl ks_moI)), (al, .inl (cJ, 64, .inl bl)), (an, .inl (cJ, 4, .inl fn))] s.heap := hP
  have hl := lv_entry ([.ref h, .int (nI i)]) (n := 5) (Nat.le_of_ble_eq_true rfl)
  rw [lg_entry_eq]
  generalize (lg_sl ([.ref h, .int (nI i)]) ++ List.replicate (5 - (lg_sl ([.ref h, .int (nI i)])).length) Slot.unset).toArray = ls at hl ⊢
  have hl : lv_has ls 5 [(0, .ref h), (1, .int (nI i))] := hl
  refine lv_iload_n hx hb dX2_step_0 rfl (lv_at hl 1 rfl) ?_
  refine lv_bipush (v := 16) hx hb dX2_step_1 (by decide) ?_
  refine lv_idiv hx hb dX2_step_3 (by decide) ?_
  refine kz_top (y := nI (i / 16)) (pk_div (d := 16) (by omega) (by decide) (by decide)) ?_
  refine lv_istore_n (lv' := [(2, .int (nI (i / 16))), (0, .ref h), (1, .int (nI i))]) hx hb dX2_step_4 rfl hl (by decide) rfl (fun ls hl => ?_)
  refine lv_aload_n hx hb dX2_step_5 rfl (lv_at hl 1 rfl) ?_
  refine va_get (D := (dC, dI)) (ci := 2) (v := .ref au) (C := RX2) (T := TX2) (N := 14) hx hb hts (by decide +kernel) hown hK hP 0 rfl rfl 1 (by decide) (hts (.fieldLink RX2 77 "KeySumsModel" "turns" "[I") (by decide +kernel)) (fun _ h9 => h9) rfl dX2_step_6 ?_
  refine lv_iconst (v := 4) hx hb dX2_step_9 (by decide) ?_
  refine lv_iload_n hx hb dX2_step_10 rfl (lv_at hl 0 rfl) ?_
  refine lv_imul hx hb dX2_step_11 ?_
  refine kz_top (y := nI (4 * (i / 16))) (pk_mul 4 (i / 16)) ?_
  refine lv_iload_n hx hb dX2_step_12 rfl (lv_at hl 2 rfl) ?_
  refine lv_iconst (v := 4) hx hb dX2_step_13 (by decide) ?_
  refine lv_irem hx hb dX2_step_14 (by decide) ?_
  refine kz_top (y := nI (i % 4)) (pk_rem (d := 4) (by omega) (by decide) (by decide)) ?_
  refine lv_iadd hx hb dX2_step_15 ?_
  refine kz_top (y := nI (4 * (i / 16) + i % 4)) (nI_add _ _) ?_
  refine kz_iald (j := (4 * (i / 16) + i % 4)) hx hb hK hP 2 0 rfl rfl (show 4 * (i / 16) + i % 4 < 16 by omega) (by decide) dX2_step_16 ?_
  refine kz_top (y := ks_t i) rfl ?_
  refine lv_istore_n (lv' := [(3, .int (ks_t i)), (2, .int (nI (i / 16))), (0, .ref h), (1, .int (nI i))]) hx hb dX2_step_17 rfl hl (by decide) rfl (fun ls hl => ?_)
  refine lv_aload_n hx hb dX2_step_18 rfl (lv_at hl 2 rfl) ?_
  refine va_get (D := (dC, dI)) (ci := 2) (v := .ref an) (C := RX2) (T := TX2) (N := 14) hx hb hts (by decide +kernel) hown hK hP 0 rfl rfl 10 (by decide) (hts (.fieldLink RX2 105 "KeySumsModel" "now" "[I") (by decide +kernel)) (fun _ h9 => h9) rfl dX2_step_19 ?_
  refine lv_iconst (v := 0) hx hb dX2_step_22 (by decide) ?_
  refine kz_top (y := nI 0) (by decide) ?_
  refine kz_iald (j := 0) hx hb hK hP 6 0 rfl rfl (show 0 < 4 by decide) (by decide) dX2_step_23 ?_
  refine lv_aload_n hx hb dX2_step_24 rfl (lv_at hl 2 rfl) ?_
  refine lv_iload_n hx hb dX2_step_25 rfl (lv_at hl 1 rfl) ?_
  have hPc := hP.sub (ws' := [(h, .inr (2, [.ref ac, .ref au, .ref ab, .ref ae, .ref am, .ref ap, .int sz0, .ref ak, .ref al, .ref af, .ref an, .int mm, .ref ar, .int sm])), (an, .inl (cJ, 4, .inl fn))]) [0, 6] rfl
  have hDc := hD.sub (ws' := [(h, .inr (2, [.ref ac, .ref au, .ref ab, .ref ae, .ref am, .ref ap, .int sz0, .ref ak, .ref al, .ref af, .ref an, .int mm, .ref ar, .int sm])), (an, .inl (cJ, 4, .inl fn))]) [0, 6] (by decide) rfl
  have hKc := hK.sub (tys' := [(cJ, .int)]) [0] rfl
  have hFc := va_free (wc := [(h, .inr (2, [.ref ac, .ref au, .ref ab, .ref ae, .ref am, .ref ap, .int sz0, .ref ak, .ref al, .ref af, .ref an, .int mm, .ref ar, .int sm])), (an, .inl (cJ, 4, .inl fn))]) hD hS hA [0, 6] rfl
  refine vp_callSi (va_runV (As := [.int (nI (i / 16))]) (rest := [.int (fn 0)]) ⟨hx, hb, hml, hown, hts⟩ (r_mixed l dC dI s.heap.size h ac au ab ae am ap ak al af an ar cJ sz0 mm sm fn (i / 16) (by omega)) (cwV 1 hts gX2_step_X2_mixed rfl rfl rfl (by decide +kernel) ⟨Nat.le_of_ble_eq_true rfl, Nat.le_of_ble_eq_true rfl⟩) ⟨fun a U g mk q => by obtain ⟨q0, q1, qP, qK, qD⟩ := q; exact ⟨q0, q1, qP, va_K.moved (u := U) (U := U.calling g mk a) (Vm.Alike.refl U.vm) qK, qD⟩, va_recv hKc hPc (ci := 2) (q0 := 0) rfl rfl, fun U hU hW => ⟨rfl, by rw [hU], by rw [hU]; exact hPc, va_K.moved hW.alike hKc, hDc.weaken (fun _ _ _ _ => trivial)⟩⟩ rfl rfl hl.1 rfl (lv_room (Nat.le_of_ble_eq_true rfl)) dX2_step_26 ⟨Nat.zero_le _, Nat.zero_le _⟩).run (fun r hw => ?_)
  subst hw
  refine lv_iadd hx hb dX2_step_29 ?_
  refine lv_aload_n hx hb dX2_step_30 rfl (lv_at hl 2 rfl) ?_
  refine va_get (D := (dC, dI)) (ci := 2) (v := .ref ac) (C := RX2) (T := TX2) (N := 14) hx hb hts (by decide +kernel) hown hK hP 0 rfl rfl 0 (by decide) (hts (.fieldLink RX2 71 "KeySumsModel" "constant" "[I") (by decide +kernel)) (fun _ h9 => h9) rfl dX2_step_31 ?_
  refine lv_iload_n hx hb dX2_step_34 rfl (lv_at hl 3 rfl) ?_
  refine kz_iald (j := i) hx hb hK hP 1 0 rfl rfl (hi) (by decide) dX2_step_35 ?_
  refine lv_iadd hx hb dX2_step_36 ?_
  refine lv_aload_n hx hb dX2_step_37 rfl (lv_at hl 2 rfl) ?_
  refine lv_aload_n hx hb dX2_step_38 rfl (lv_at hl 2 rfl) ?_
  refine va_get (D := (dC, dI)) (ci := 2) (v := .ref ae) (C := RX2) (T := TX2) (N := 14) hx hb hts (by decide +kernel) hown hK hP 0 rfl rfl 3 (by decide) (hts (.fieldLink RX2 87 "KeySumsModel" "times" "[I") (by decide +kernel)) (fun _ h9 => h9) rfl dX2_step_39 ?_
  refine lv_iload_n hx hb dX2_step_42 rfl (lv_at hl 1 rfl) ?_
  refine kz_iald (j := (i / 16)) hx hb hK hP 3 0 rfl rfl (show i / 16 < 4 by omega) (by decide) dX2_step_43 ?_
  refine kz_top (y := nI (ks_tm (i / 16))) rfl ?_
  refine lv_iload_n hx hb dX2_step_44 rfl (lv_at hl 3 rfl) ?_
  refine lv_imul hx hb dX2_step_45 ?_
  refine kz_top (y := nI (ks_tm (i / 16) * i)) (pk_mul _ _) ?_
  refine lv_aload_n hx hb dX2_step_46 rfl (lv_at hl 2 rfl) ?_
  refine va_get (D := (dC, dI)) (ci := 2) (v := .ref am) (C := RX2) (T := TX2) (N := 14) hx hb hts (by decide +kernel) hown hK hP 0 rfl rfl 4 (by decide) (hts (.fieldLink RX2 90 "KeySumsModel" "more" "[I") (by decide +kernel)) (fun _ h9 => h9) rfl dX2_step_47 ?_
  refine lv_iload_n hx hb dX2_step_50 rfl (lv_at hl 1 rfl) ?_
  refine kz_iald (j := (i / 16)) hx hb hK hP 4 0 rfl rfl (show i / 16 < 4 by omega) (by decide) dX2_step_51 ?_
  refine kz_top (y := nI (ks_mo (i / 16))) rfl ?_
  refine lv_iadd hx hb dX2_step_52 ?_
  refine kz_top (y := nI (ks_tm (i / 16) * i + ks_mo (i / 16))) (nI_add _ _) ?_
  have hgb : ks_tm (i / 16) * i + ks_mo (i / 16) < 2 ^ 31 := ks_gb hi
  refine lv_bipush (v := 16) hx hb dX2_step_53 (by decide) ?_
  refine lv_irem hx hb dX2_step_55 (by decide) ?_
  refine kz_top (y := nI (ks_g i)) (by rw [← ks_gg hi]; exact pk_rem (d := 16) hgb (by decide) (by decide)) ?_
  have hPc := hP.sub (ws' := [(h, .inr (2, [.ref ac, .ref au, .ref ab, .ref ae, .ref am, .ref ap, .int sz0, .ref ak, .ref al, .ref af, .ref an, .int mm, .ref ar, .int sm])), (al, .inl (cJ, 64, .inl bl))]) [0, 5] rfl
  have hDc := hD.sub (ws' := [(h, .inr (2, [.ref ac, .ref au, .ref ab, .ref ae, .ref am, .ref ap, .int sz0, .ref ak, .ref al, .ref af, .ref an, .int mm, .ref ar, .int sm])), (al, .inl (cJ, 64, .inl bl))]) [0, 5] (by decide) rfl
  have hKc := hK.sub (tys' := [(cJ, .int)]) [0] rfl
  have hFc := va_free (wc := [(h, .inr (2, [.ref ac, .ref au, .ref ab, .ref ae, .ref am, .ref ap, .int sz0, .ref ak, .ref al, .ref af, .ref an, .int mm, .ref ar, .int sm])), (al, .inl (cJ, 64, .inl bl))]) hD hS hA [0, 5] rfl
  refine vp_callSi (va_runV (As := [.int (nI (ks_g i))]) (rest := [.int (((fn 0) + (ks_F (i / 16) (fn 1) (fn 2) (fn 3))) + (ks_k i))]) ⟨hx, hb, hml, hown, hts⟩ (r_word l dC dI s.heap.size h ac au ab ae am ap ak al af an ar cJ sz0 mm sm bl (ks_g i) (ks_g_lt i)) (cwV 1 hts gX2_step_X2_word rfl rfl rfl (by decide +kernel) ⟨Nat.le_of_ble_eq_true rfl, Nat.le_of_ble_eq_true rfl⟩) ⟨fun a U g mk q => by obtain ⟨q0, q1, qP, qK, qD⟩ := q; exact ⟨q0, q1, qP, va_K.moved (u := U) (U := U.calling g mk a) (Vm.Alike.refl U.vm) qK, qD⟩, va_recv hKc hPc (ci := 2) (q0 := 0) rfl rfl, fun U hU hW => ⟨rfl, by rw [hU], by rw [hU]; exact hPc, va_K.moved hW.alike hKc, hDc.weaken (fun _ _ _ _ => trivial)⟩⟩ rfl rfl hl.1 rfl (lv_room (Nat.le_of_ble_eq_true rfl)) dX2_step_56 ⟨Nat.zero_le _, Nat.zero_le _⟩).run (fun r hw => ?_)
  subst hw
  refine lv_iadd hx hb dX2_step_59 ?_
  refine lv_topi (fun xx hxx => ?_)
  refine lv_istore (lv' := [(4, .int xx), (3, .int (ks_t i)), (2, .int (nI (i / 16))), (0, .ref h), (1, .int (nI i))]) hx hb dX2_step_60 hl (by decide) rfl (fun ls hl => ?_)
  refine lv_aload_n hx hb dX2_step_62 rfl (lv_at hl 3 rfl) ?_
  refine va_get (D := (dC, dI)) (ci := 2) (v := .ref an) (C := RX2) (T := TX2) (N := 14) hx hb hts (by decide +kernel) hown hK hP 0 rfl rfl 10 (by decide) (hts (.fieldLink RX2 105 "KeySumsModel" "now" "[I") (by decide +kernel)) (fun _ h9 => h9) rfl dX2_step_63 ?_
  refine lv_iconst (v := 0) hx hb dX2_step_66 (by decide) ?_
  refine kz_top (y := nI 0) (by decide) ?_
  refine lv_aload_n hx hb dX2_step_67 rfl (lv_at hl 3 rfl) ?_
  refine va_get (D := (dC, dI)) (ci := 2) (v := .ref an) (C := RX2) (T := TX2) (N := 14) hx hb hts (by decide +kernel) hown hK hP 0 rfl rfl 10 (by decide) (hts (.fieldLink RX2 105 "KeySumsModel" "now" "[I") (by decide +kernel)) (fun _ h9 => h9) rfl dX2_step_68 ?_
  refine lv_iconst (v := 3) hx hb dX2_step_71 (by decide) ?_
  refine kz_top (y := nI 3) (by decide) ?_
  refine kz_iald (j := 3) hx hb hK hP 6 0 rfl rfl (show 3 < 4 by decide) (by decide) dX2_step_72 ?_
  refine kz_iast (j := 0) hx hb hK hP hD hS 6 0 rfl rfl (show 0 < 4 by decide) (by decide) dX2_step_73 (fun H locs hP hD hS => ?_)
  have hP : va_P (dC, dI) vwCl [(h, .inr (2, [.ref ac, .ref au, .ref ab, .ref ae, .ref am, .ref ap, .int sz0, .ref ak, .ref al, .ref af, .ref an, .int mm, .ref ar, .int sm])), (ac, .inl (cJ, 64, .inl ks_k)), (au, .inl (cJ, 16, .inl ks_tt)), (ae, .inl (cJ, 4, .inl ks_tmI)), (am, .inl (cJ, 4, .inl ks_moI)), (al, .inl (cJ, 64, .inl bl)), (an, .inl (cJ, 4, .inl (upd fn 0 (fn 3))))] H := hP
  have hD : va_D A [(h, .inr (2, [.ref ac, .ref au, .ref ab, .ref ae, .ref am, .ref ap, .int sz0, .ref ak, .ref al, .ref af, .ref an, .int mm, .ref ar, .int sm])), (ac, .inl (cJ, 64, .inl ks_k)), (au, .inl (cJ, 16, .inl ks_tt)), (ae, .inl (cJ, 4, .inl ks_tmI)), (am, .inl (cJ, 4, .inl ks_moI)), (al, .inl (cJ, 64, .inl bl)), (an, .inl (cJ, 4, .inl (upd fn 0 (fn 3))))] := hD
  refine lv_aload_n hx hb dX2_step_74 rfl (lv_at hl 3 rfl) ?_
  refine va_get (D := (dC, dI)) (ci := 2) (v := .ref an) (C := RX2) (T := TX2) (N := 14) hx hb hts (by decide +kernel) hown hK hP 0 rfl rfl 10 (by decide) (hts (.fieldLink RX2 105 "KeySumsModel" "now" "[I") (by decide +kernel)) (fun _ h9 => h9) rfl dX2_step_75 ?_
  refine lv_iconst (v := 3) hx hb dX2_step_78 (by decide) ?_
  refine kz_top (y := nI 3) (by decide) ?_
  refine lv_aload_n hx hb dX2_step_79 rfl (lv_at hl 3 rfl) ?_
  refine va_get (D := (dC, dI)) (ci := 2) (v := .ref an) (C := RX2) (T := TX2) (N := 14) hx hb hts (by decide +kernel) hown hK hP 0 rfl rfl 10 (by decide) (hts (.fieldLink RX2 105 "KeySumsModel" "now" "[I") (by decide +kernel)) (fun _ h9 => h9) rfl dX2_step_80 ?_
  refine lv_iconst (v := 2) hx hb dX2_step_83 (by decide) ?_
  refine kz_top (y := nI 2) (by decide) ?_
  refine kz_iald (j := 2) hx hb hK hP 6 0 rfl rfl (show 2 < 4 by decide) (by decide) dX2_step_84 ?_
  refine kz_iast (j := 3) hx hb hK hP hD hS 6 0 rfl rfl (show 3 < 4 by decide) (by decide) dX2_step_85 (fun H locs hP hD hS => ?_)
  have hP : va_P (dC, dI) vwCl [(h, .inr (2, [.ref ac, .ref au, .ref ab, .ref ae, .ref am, .ref ap, .int sz0, .ref ak, .ref al, .ref af, .ref an, .int mm, .ref ar, .int sm])), (ac, .inl (cJ, 64, .inl ks_k)), (au, .inl (cJ, 16, .inl ks_tt)), (ae, .inl (cJ, 4, .inl ks_tmI)), (am, .inl (cJ, 4, .inl ks_moI)), (al, .inl (cJ, 64, .inl bl)), (an, .inl (cJ, 4, .inl (upd (upd fn 0 (fn 3)) 3 ((upd fn 0 (fn 3)) 2))))] H := hP
  have hD : va_D A [(h, .inr (2, [.ref ac, .ref au, .ref ab, .ref ae, .ref am, .ref ap, .int sz0, .ref ak, .ref al, .ref af, .ref an, .int mm, .ref ar, .int sm])), (ac, .inl (cJ, 64, .inl ks_k)), (au, .inl (cJ, 16, .inl ks_tt)), (ae, .inl (cJ, 4, .inl ks_tmI)), (am, .inl (cJ, 4, .inl ks_moI)), (al, .inl (cJ, 64, .inl bl)), (an, .inl (cJ, 4, .inl (upd (upd fn 0 (fn 3)) 3 ((upd fn 0 (fn 3)) 2))))] := hD
  refine lv_aload_n hx hb dX2_step_86 rfl (lv_at hl 3 rfl) ?_
  refine va_get (D := (dC, dI)) (ci := 2) (v := .ref an) (C := RX2) (T := TX2) (N := 14) hx hb hts (by decide +kernel) hown hK hP 0 rfl rfl 10 (by decide) (hts (.fieldLink RX2 105 "KeySumsModel" "now" "[I") (by decide +kernel)) (fun _ h9 => h9) rfl dX2_step_87 ?_
  refine lv_iconst (v := 2) hx hb dX2_step_90 (by decide) ?_
  refine kz_top (y := nI 2) (by decide) ?_
  refine lv_aload_n hx hb dX2_step_91 rfl (lv_at hl 3 rfl) ?_
  refine va_get (D := (dC, dI)) (ci := 2) (v := .ref an) (C := RX2) (T := TX2) (N := 14) hx hb hts (by decide +kernel) hown hK hP 0 rfl rfl 10 (by decide) (hts (.fieldLink RX2 105 "KeySumsModel" "now" "[I") (by decide +kernel)) (fun _ h9 => h9) rfl dX2_step_92 ?_
  refine lv_iconst (v := 1) hx hb dX2_step_95 (by decide) ?_
  refine kz_top (y := nI 1) (by decide) ?_
  refine kz_iald (j := 1) hx hb hK hP 6 0 rfl rfl (show 1 < 4 by decide) (by decide) dX2_step_96 ?_
  refine kz_iast (j := 2) hx hb hK hP hD hS 6 0 rfl rfl (show 2 < 4 by decide) (by decide) dX2_step_97 (fun H locs hP hD hS => ?_)
  have hP : va_P (dC, dI) vwCl [(h, .inr (2, [.ref ac, .ref au, .ref ab, .ref ae, .ref am, .ref ap, .int sz0, .ref ak, .ref al, .ref af, .ref an, .int mm, .ref ar, .int sm])), (ac, .inl (cJ, 64, .inl ks_k)), (au, .inl (cJ, 16, .inl ks_tt)), (ae, .inl (cJ, 4, .inl ks_tmI)), (am, .inl (cJ, 4, .inl ks_moI)), (al, .inl (cJ, 64, .inl bl)), (an, .inl (cJ, 4, .inl (upd (upd (upd fn 0 (fn 3)) 3 ((upd fn 0 (fn 3)) 2)) 2 ((upd (upd fn 0 (fn 3)) 3 ((upd fn 0 (fn 3)) 2)) 1))))] H := hP
  have hD : va_D A [(h, .inr (2, [.ref ac, .ref au, .ref ab, .ref ae, .ref am, .ref ap, .int sz0, .ref ak, .ref al, .ref af, .ref an, .int mm, .ref ar, .int sm])), (ac, .inl (cJ, 64, .inl ks_k)), (au, .inl (cJ, 16, .inl ks_tt)), (ae, .inl (cJ, 4, .inl ks_tmI)), (am, .inl (cJ, 4, .inl ks_moI)), (al, .inl (cJ, 64, .inl bl)), (an, .inl (cJ, 4, .inl (upd (upd (upd fn 0 (fn 3)) 3 ((upd fn 0 (fn 3)) 2)) 2 ((upd (upd fn 0 (fn 3)) 3 ((upd fn 0 (fn 3)) 2)) 1))))] := hD
  refine lv_aload_n hx hb dX2_step_98 rfl (lv_at hl 3 rfl) ?_
  refine va_get (D := (dC, dI)) (ci := 2) (v := .ref an) (C := RX2) (T := TX2) (N := 14) hx hb hts (by decide +kernel) hown hK hP 0 rfl rfl 10 (by decide) (hts (.fieldLink RX2 105 "KeySumsModel" "now" "[I") (by decide +kernel)) (fun _ h9 => h9) rfl dX2_step_99 ?_
  refine lv_iconst (v := 1) hx hb dX2_step_102 (by decide) ?_
  refine kz_top (y := nI 1) (by decide) ?_
  refine lv_aload_n hx hb dX2_step_103 rfl (lv_at hl 3 rfl) ?_
  refine va_get (D := (dC, dI)) (ci := 2) (v := .ref an) (C := RX2) (T := TX2) (N := 14) hx hb hts (by decide +kernel) hown hK hP 0 rfl rfl 10 (by decide) (hts (.fieldLink RX2 105 "KeySumsModel" "now" "[I") (by decide +kernel)) (fun _ h9 => h9) rfl dX2_step_104 ?_
  refine lv_iconst (v := 1) hx hb dX2_step_107 (by decide) ?_
  refine kz_top (y := nI 1) (by decide) ?_
  refine kz_iald (j := 1) hx hb hK hP 6 0 rfl rfl (show 1 < 4 by decide) (by decide) dX2_step_108 ?_
  refine lv_iload hx hb dX2_step_109 (lv_at hl 0 rfl) ?_
  refine lv_iload_n hx hb dX2_step_111 rfl (lv_at hl 1 rfl) ?_
  refine lv_ishl hx hb dX2_step_112 ?_
  refine lv_iload hx hb dX2_step_113 (lv_at hl 0 rfl) ?_
  refine lv_bipush (v := 32) hx hb dX2_step_115 (by decide) ?_
  refine lv_iload_n hx hb dX2_step_117 rfl (lv_at hl 1 rfl) ?_
  refine lv_isub hx hb dX2_step_118 ?_
  refine lv_iushr (v := ks_us xx (32 - (ks_t i))) hx hb dX2_step_119 rfl ?_
  refine lv_ior hx hb dX2_step_120 ?_
  refine lv_iadd hx hb dX2_step_121 ?_
  refine kz_iast (j := 1) hx hb hK hP hD hS 6 0 rfl rfl (show 1 < 4 by decide) (by decide) dX2_step_122 (fun H locs hP hD hS => ?_)
  have hP : va_P (dC, dI) vwCl [(h, .inr (2, [.ref ac, .ref au, .ref ab, .ref ae, .ref am, .ref ap, .int sz0, .ref ak, .ref al, .ref af, .ref an, .int mm, .ref ar, .int sm])), (ac, .inl (cJ, 64, .inl ks_k)), (au, .inl (cJ, 16, .inl ks_tt)), (ae, .inl (cJ, 4, .inl ks_tmI)), (am, .inl (cJ, 4, .inl ks_moI)), (al, .inl (cJ, 64, .inl bl)), (an, .inl (cJ, 4, .inl (upd (upd (upd (upd fn 0 (fn 3)) 3 ((upd fn 0 (fn 3)) 2)) 2 ((upd (upd fn 0 (fn 3)) 3 ((upd fn 0 (fn 3)) 2)) 1)) 1 (((upd (upd (upd fn 0 (fn 3)) 3 ((upd fn 0 (fn 3)) 2)) 2 ((upd (upd fn 0 (fn 3)) 3 ((upd fn 0 (fn 3)) 2)) 1)) 1) + ((xx <<< ((ks_t i) &&& 31)) ||| (ks_us xx (32 - (ks_t i))))))))] H := hP
  have hD : va_D A [(h, .inr (2, [.ref ac, .ref au, .ref ab, .ref ae, .ref am, .ref ap, .int sz0, .ref ak, .ref al, .ref af, .ref an, .int mm, .ref ar, .int sm])), (ac, .inl (cJ, 64, .inl ks_k)), (au, .inl (cJ, 16, .inl ks_tt)), (ae, .inl (cJ, 4, .inl ks_tmI)), (am, .inl (cJ, 4, .inl ks_moI)), (al, .inl (cJ, 64, .inl bl)), (an, .inl (cJ, 4, .inl (upd (upd (upd (upd fn 0 (fn 3)) 3 ((upd fn 0 (fn 3)) 2)) 2 ((upd (upd fn 0 (fn 3)) 3 ((upd fn 0 (fn 3)) 2)) 1)) 1 (((upd (upd (upd fn 0 (fn 3)) 3 ((upd fn 0 (fn 3)) 2)) 2 ((upd (upd fn 0 (fn 3)) 3 ((upd fn 0 (fn 3)) 2)) 1)) 1) + ((xx <<< ((ks_t i) &&& 31)) ||| (ks_us xx (32 - (ks_t i))))))))] := hD
  have hfin : ks_4 (upd (upd (upd (upd fn 0 (fn 3)) 3 ((upd fn 0 (fn 3)) 2)) 2 ((upd (upd fn 0 (fn 3)) 3 ((upd fn 0 (fn 3)) 2)) 1)) 1 (((upd (upd (upd fn 0 (fn 3)) 3 ((upd fn 0 (fn 3)) 2)) 2 ((upd (upd fn 0 (fn 3)) 3 ((upd fn 0 (fn 3)) 2)) 1)) 1) + ((xx <<< ((ks_t i) &&& 31)) ||| (ks_us xx (32 - (ks_t i)))))) = ks_st (ks_lw bl) i (ks_4 fn) := by rw [hxx]; rfl
  have hP9 := hP.sub (ws' := [(h, .inr (2, [.ref ac, .ref au, .ref ab, .ref ae, .ref am, .ref ap, .int sz0, .ref ak, .ref al, .ref af, .ref an, .int mm, .ref ar, .int sm])), (ac, .inl (cJ, 64, .inl ks_k)), (au, .inl (cJ, 16, .inl ks_tt)), (ae, .inl (cJ, 4, .inl ks_tmI)), (am, .inl (cJ, 4, .inl ks_moI)), (al, .inl (cJ, 64, .inl bl)), (an, .inl (cJ, 4, .inl (upd (upd (upd (upd fn 0 (fn 3)) 3 ((upd fn 0 (fn 3)) 2)) 2 ((upd (upd fn 0 (fn 3)) 3 ((upd fn 0 (fn 3)) 2)) 1)) 1 (((upd (upd (upd fn 0 (fn 3)) 3 ((upd fn 0 (fn 3)) 2)) 2 ((upd (upd fn 0 (fn 3)) 3 ((upd fn 0 (fn 3)) 2)) 1)) 1) + ((xx <<< ((ks_t i) &&& 31)) ||| (ks_us xx (32 - (ks_t i))))))))]) [0, 1, 2, 3, 4, 5, 6] rfl
  have hD9 := hD.sub (ws' := [(h, .inr (2, [.ref ac, .ref au, .ref ab, .ref ae, .ref am, .ref ap, .int sz0, .ref ak, .ref al, .ref af, .ref an, .int mm, .ref ar, .int sm])), (ac, .inl (cJ, 64, .inl ks_k)), (au, .inl (cJ, 16, .inl ks_tt)), (ae, .inl (cJ, 4, .inl ks_tmI)), (am, .inl (cJ, 4, .inl ks_moI)), (al, .inl (cJ, 64, .inl bl)), (an, .inl (cJ, 4, .inl (upd (upd (upd (upd fn 0 (fn 3)) 3 ((upd fn 0 (fn 3)) 2)) 2 ((upd (upd fn 0 (fn 3)) 3 ((upd fn 0 (fn 3)) 2)) 1)) 1 (((upd (upd (upd fn 0 (fn 3)) 3 ((upd fn 0 (fn 3)) 2)) 2 ((upd (upd fn 0 (fn 3)) 3 ((upd fn 0 (fn 3)) 2)) 1)) 1) + ((xx <<< ((ks_t i) &&& 31)) ||| (ks_us xx (32 - (ks_t i))))))))]) [0, 1, 2, 3, 4, 5, 6] (by decide) rfl
  have hK9 := hK.sub (tys' := [(cJ, .int)]) [0] rfl
  exact W.vret hx hb hr (fun t ht hW => ⟨⟨_, rfl, hfin, by rw [ht]; exact hP9, va_K.moved hW.alike hK9, hD9⟩, hS.F ht⟩) hS.2.2 dX2_step_123
