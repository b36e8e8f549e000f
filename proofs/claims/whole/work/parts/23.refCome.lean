set_option maxHeartbeats 4000000 in
set_option maxRecDepth 100000 in
/-- come: one byte more -/
theorem r_come (l : Launch) (dC : Nat → ClassId) (dI : Nat → Nat → Nat) (sz : Nat) (h ac au ab ae am ap ak al af an ar : Nat) (cJ : ClassId) (sz0 sm : Int32) (n : Nat) (bl fr fn f : Nat → Int32) (x : Int32) (hn : n + 1 < 2 ^ 31) (hi : rf_inv f n bl fr) (hfx : f n &&& 255 = x &&& 255) : Met l yX2_come wsX2_come ({ frames := 2, cells := 0, slots := 0, locals := 60 }) (va_Pc [.ref h, .int x] (fun U => U.heap.size = sz ∧ va_P (dC, dI) vwCl [(h, .inr (2, [.ref ac, .ref au, .ref ab, .ref ae, .ref am, .ref ap, .int sz0, .ref ak, .ref al, .ref af, .ref an, .int (nI n), .ref ar, .int sm])), (ac, .inl (cJ, 64, .inl ks_k)), (au, .inl (cJ, 16, .inl ks_tt)), (ae, .inl (cJ, 4, .inl ks_tmI)), (am, .inl (cJ, 4, .inl ks_moI)), (al, .inl (cJ, 64, .inl bl)), (af, .inl (cJ, 4, .inl fr)), (an, .inl (cJ, 4, .inl fn))] U.heap ∧ va_K (dC, dI) vwCl [(cJ, .int)] U ∧ va_D (fun _ => True) [(h, .inr (2, [.ref ac, .ref au, .ref ab, .ref ae, .ref am, .ref ap, .int sz0, .ref ak, .ref al, .ref af, .ref an, .int (nI n), .ref ar, .int sm])), (ac, .inl (cJ, 64, .inl ks_k)), (au, .inl (cJ, 16, .inl ks_tt)), (ae, .inl (cJ, 4, .inl ks_tmI)), (am, .inl (cJ, 4, .inl ks_moI)), (al, .inl (cJ, 64, .inl bl)), (af, .inl (cJ, 4, .inl fr)), (an, .inl (cJ, 4, .inl fn))])) (va_Qv (fun u : (Nat → Int32) × (Nat → Int32) × (Nat → Int32) => rf_inv f (n + 1) u.1 u.2.1) (fun (u : (Nat → Int32) × (Nat → Int32) × (Nat → Int32)) t => kz_B dC dI [(cJ, .int)] (va_A [(h, .inr (2, [.ref ac, .ref au, .ref ab, .ref ae, .ref am, .ref ap, .int sz0, .ref ak, .ref al, .ref af, .ref an, .int (nI n), .ref ar, .int sm])), (ac, .inl (cJ, 64, .inl ks_k)), (au, .inl (cJ, 16, .inl ks_tt)), (ae, .inl (cJ, 4, .inl ks_tmI)), (am, .inl (cJ, 4, .inl ks_moI)), (al, .inl (cJ, 64, .inl bl)), (af, .inl (cJ, 4, .inl fr)), (an, .inl (cJ, 4, .inl fn))] sz) [(h, .inr (2, [.ref ac, .ref au, .ref ab, .ref ae, .ref am, .ref ap, .int sz0, .ref ak, .ref al, .ref af, .ref an, .int (nI (n + 1)), .ref ar, .int sm])), (ac, .inl (cJ, 64, .inl ks_k)), (au, .inl (cJ, 16, .inl ks_tt)), (ae, .inl (cJ, 4, .inl ks_tmI)), (am, .inl (cJ, 4, .inl ks_moI)), (al, .inl (cJ, 64, .inl u.1)), (af, .inl (cJ, 4, .inl u.2.1)), (an, .inl (cJ, 4, .inl u.2.2))] t) (va_A [(h, .inr (2, [.ref ac, .ref au, .ref ab, .ref ae, .ref am, .ref ap, .int sz0, .ref ak, .ref al, .ref af, .ref an, .int (nI n), .ref ar, .int sm])), (ac, .inl (cJ, 64, .inl ks_k)), (au, .inl (cJ, 16, .inl ks_tt)), (ae, .inl (cJ, 4, .inl ks_tmI)), (am, .inl (cJ, 4, .inl ks_moI)), (al, .inl (cJ, 64, .inl bl)), (af, .inl (cJ, 4, .inl fr)), (an, .inl (cJ, 4, .inl fn))] sz)) 0 0 (va_A [(h, .inr (2, [.ref ac, .ref au, .ref ab, .ref ae, .ref am, .ref ap, .int sz0, .ref ak, .ref al, .ref af, .ref an, .int (nI n), .ref ar, .int sm])), (ac, .inl (cJ, 64, .inl ks_k)), (au, .inl (cJ, 16, .inl ks_tt)), (ae, .inl (cJ, 4, .inl ks_tmI)), (am, .inl (cJ, 4, .inl ks_moI)), (al, .inl (cJ, 64, .inl bl)), (af, .inl (cJ, 4, .inl fr)), (an, .inl (cJ, 4, .inl fn))] sz) := by
  refine Met.ofW (cc := cX2_come) (maxL := 3) (ret := none) (by decide) rfl ?_
  intro p e s m args below meth c s₁ B hml hv
  obtain ⟨rfl, hsz, hP, hK, hD0⟩ := hv
  have hx := B.exec
  have hb := B.bytes
  have hr := B.returns
  have hts := atoms_spec (ws := wsX2_come) B.pre
  have hown : s.vm.findClass RX2 = some m.cls := findClass_of_methodNamed B.named
  have hlocks := B.notSynchronized
  subst hsz
  have hD := hD0.self (sz := s.heap.size)
  generalize hAe : va_A [(h, .inr (2, [.ref ac, .ref au, .ref ab, .ref ae, .ref am, .ref ap, .int sz0, .ref ak, .ref al, .ref af, .ref an, .int (nI n), .ref ar, .int sm])), (ac, .inl (cJ, 64, .inl ks_k)), (au, .inl (cJ, 16, .inl ks_tt)), (ae, .inl (cJ, 4, .inl ks_tmI)), (am, .inl (cJ, 4, .inl ks_moI)), (al, .inl (cJ, 64, .inl bl)), (af, .inl (cJ, 4, .inl fr)), (an, .inl (cJ, 4, .inl fn))] s.heap.size = A at hD  ⊢
  have hA : ∀ q : Nat, s.heap.size ≤ q → A q := fun q h => by rw [← hAe]; exact Or.inr h
  have hS : va_S A s.heap s.heap [] := va_S.rf
  have hP : va_P (dC, dI) vwCl [(h, .inr (2, [.ref ac, .ref au, .ref ab, .ref ae, .ref am, .ref ap, .int sz0, .ref ak, .ref al, .ref af, .ref an, .int (nI n), .ref ar, .int sm])), (ac, .inl (cJ, 64, .inl ks_k)), (au, .inl (cJ, 16, .inl ks_tt)), (ae, .inl (cJ, 4, .inl ks_tmI)), (am, .inl (cJ, 4, .inl ks_moI)), (al, .inl (cJ, 64, .inl bl)), (af, .inl (cJ, 4, .inl fr)), (an, .inl (cJ, 4, .inl fn))] s.heap := hP
  have hl := lv_entry ([.ref h, .int x]) (n := 3) (Nat.le_of_ble_eq_true rfl)
  rw [lg_entry_eq]
  generalize (lg_sl ([.ref h, .int x]) ++ List.replicate (3 - (lg_sl ([.ref h, .int x])).length) Slot.unset).toArray = ls at hl ⊢
  have hl : lv_has ls 3 [(0, .ref h), (1, .int x)] := hl
  refine lv_aload_n hx hb dX2_come_0 rfl (lv_at hl 0 rfl) ?_
  refine va_get (D := (dC, dI)) (ci := 2) (v := .ref al) (C := RX2) (T := TX2) (N := 14) hx hb hts (by decide +kernel) hown hK hP 0 rfl rfl 8 (by decide) (hts (.fieldLink RX2 99 "KeySumsModel" "block" "[I") (by decide +kernel)) (fun _ h9 => h9) rfl dX2_come_1 ?_
  refine lv_aload_n hx hb dX2_come_4 rfl (lv_at hl 0 rfl) ?_
  refine va_get (D := (dC, dI)) (ci := 2) (v := .int (nI n)) (C := RX2) (T := TX2) (N := 14) hx hb hts (by decide +kernel) hown hK hP 0 rfl rfl 11 (by decide) (hts (.fieldLink RX2 114 "KeySumsModel" "many" "I") (by decide +kernel)) (fun _ h9 => h9) rfl dX2_come_5 ?_
  refine lv_bipush (v := 64) hx hb dX2_come_8 (by decide) ?_
  refine lv_irem hx hb dX2_come_10 (by decide) ?_
  refine kz_top (y := nI (n % 64)) (pk_rem (d := 64) (by omega) (by decide) (by decide)) ?_
  refine lv_iload_n hx hb dX2_come_11 rfl (lv_at hl 1 rfl) ?_
  refine lv_sipush (v := 255) hx hb dX2_come_12 (by decide) ?_
  refine lv_iand hx hb dX2_come_15 ?_
  refine kz_iast (j := (n % 64)) hx hb hK hP hD hS 5 0 rfl rfl (show n % 64 < 64 by omega) (by decide) dX2_come_16 (fun H locs hP hD hS => ?_)
  have hP : va_P (dC, dI) vwCl [(h, .inr (2, [.ref ac, .ref au, .ref ab, .ref ae, .ref am, .ref ap, .int sz0, .ref ak, .ref al, .ref af, .ref an, .int (nI n), .ref ar, .int sm])), (ac, .inl (cJ, 64, .inl ks_k)), (au, .inl (cJ, 16, .inl ks_tt)), (ae, .inl (cJ, 4, .inl ks_tmI)), (am, .inl (cJ, 4, .inl ks_moI)), (al, .inl (cJ, 64, .inl (upd bl (n % 64) (x &&& 255)))), (af, .inl (cJ, 4, .inl fr)), (an, .inl (cJ, 4, .inl fn))] H := hP
  have hD : va_D A [(h, .inr (2, [.ref ac, .ref au, .ref ab, .ref ae, .ref am, .ref ap, .int sz0, .ref ak, .ref al, .ref af, .ref an, .int (nI n), .ref ar, .int sm])), (ac, .inl (cJ, 64, .inl ks_k)), (au, .inl (cJ, 16, .inl ks_tt)), (ae, .inl (cJ, 4, .inl ks_tmI)), (am, .inl (cJ, 4, .inl ks_moI)), (al, .inl (cJ, 64, .inl (upd bl (n % 64) (x &&& 255)))), (af, .inl (cJ, 4, .inl fr)), (an, .inl (cJ, 4, .inl fn))] := hD
  generalize hbl : upd bl (n % 64) (x &&& 255) = bl1 at hP hD
  refine lv_aload_n hx hb dX2_come_17 rfl (lv_at hl 0 rfl) ?_
  refine lv_dup hx hb dX2_come_18 rfl ?_
  refine va_get (D := (dC, dI)) (ci := 2) (v := .int (nI n)) (C := RX2) (T := TX2) (N := 14) hx hb hts (by decide +kernel) hown hK hP 0 rfl rfl 11 (by decide) (hts (.fieldLink RX2 114 "KeySumsModel" "many" "I") (by decide +kernel)) (fun _ h9 => h9) rfl dX2_come_19 ?_
  refine lv_iconst (v := 1) hx hb dX2_come_22 (by decide) ?_
  refine lv_iadd hx hb dX2_come_23 ?_
  refine kz_top (y := nI (n + 1)) (nI_1 n) ?_
  refine va_put (D := (dC, dI)) (ci := 2) (v := .int (nI (n + 1))) (ty := .int) (C := RX2) (T := TX2) (N := 14) hx hb hts (by decide +kernel) tyX2 tyX2_ok nmX2 hown hK hP hD hS 0 rfl rfl 11 (by decide) (hts (.fieldLink RX2 114 "KeySumsModel" "many" "I") (by decide +kernel)) (fun _ h9 => h9) rfl (by decide +kernel) rfl rfl (Nat.le_of_ble_eq_true rfl) dX2_come_24 (fun H locs hP hD hS => ?_)
  have hP : va_P (dC, dI) vwCl [(h, .inr (2, [.ref ac, .ref au, .ref ab, .ref ae, .ref am, .ref ap, .int sz0, .ref ak, .ref al, .ref af, .ref an, .int (nI (n + 1)), .ref ar, .int sm])), (ac, .inl (cJ, 64, .inl ks_k)), (au, .inl (cJ, 16, .inl ks_tt)), (ae, .inl (cJ, 4, .inl ks_tmI)), (am, .inl (cJ, 4, .inl ks_moI)), (al, .inl (cJ, 64, .inl bl1)), (af, .inl (cJ, 4, .inl fr)), (an, .inl (cJ, 4, .inl fn))] H := hP
  have hD : va_D A [(h, .inr (2, [.ref ac, .ref au, .ref ab, .ref ae, .ref am, .ref ap, .int sz0, .ref ak, .ref al, .ref af, .ref an, .int (nI (n + 1)), .ref ar, .int sm])), (ac, .inl (cJ, 64, .inl ks_k)), (au, .inl (cJ, 16, .inl ks_tt)), (ae, .inl (cJ, 4, .inl ks_tmI)), (am, .inl (cJ, 4, .inl ks_moI)), (al, .inl (cJ, 64, .inl bl1)), (af, .inl (cJ, 4, .inl fr)), (an, .inl (cJ, 4, .inl fn))] := hD
  refine lv_aload_n hx hb dX2_come_27 rfl (lv_at hl 0 rfl) ?_
  refine va_get (D := (dC, dI)) (ci := 2) (v := .int (nI (n + 1))) (C := RX2) (T := TX2) (N := 14) hx hb hts (by decide +kernel) hown hK hP 0 rfl rfl 11 (by decide) (hts (.fieldLink RX2 114 "KeySumsModel" "many" "I") (by decide +kernel)) (fun _ h9 => h9) rfl dX2_come_28 ?_
  refine lv_bipush (v := 64) hx hb dX2_come_31 (by decide) ?_
  refine lv_irem hx hb dX2_come_33 (by decide) ?_
  refine kz_top (y := nI ((n + 1) % 64)) (pk_rem (d := 64) (by omega) (by decide) (by decide)) ?_
  refine lv_if_le (tgt := 38) hx hb dX2_come_34 (by decide) (fun hc => ?_) (fun hc => ?_)
  · skip
    have hz : (n + 1) % 64 = 0 := by
      rcases Nat.eq_zero_or_pos ((n + 1) % 64) with q | q
      · exact q
      · exact absurd hc (nI_nle q (by omega))
    refine lv_iconst (v := 0) hx hb dX2_come_38 (by decide) ?_
    refine kz_top (y := nI 0) nI_0.symm ?_
    refine lv_istore_n (lv' := [(2, .int (nI 0)), (0, .ref h), (1, .int x)]) hx hb dX2_come_39 rfl hl (by decide) rfl (fun ls hl => ?_)
    refine kz_loop (σ := Nat → Int32) (fun i y ls H locs => (∀ j, j < i → y j = fr j) ∧ lv_has ls 3 [(2, .int (nI i)), (0, .ref h)] ∧ va_P (dC, dI) vwCl [(h, .inr (2, [.ref ac, .ref au, .ref ab, .ref ae, .ref am, .ref ap, .int sz0, .ref ak, .ref al, .ref af, .ref an, .int (nI (n + 1)), .ref ar, .int sm])), (ac, .inl (cJ, 64, .inl ks_k)), (au, .inl (cJ, 16, .inl ks_tt)), (ae, .inl (cJ, 4, .inl ks_tmI)), (am, .inl (cJ, 4, .inl ks_moI)), (al, .inl (cJ, 64, .inl bl1)), (af, .inl (cJ, 4, .inl fr)), (an, .inl (cJ, 4, .inl y))] H ∧ va_D A [(h, .inr (2, [.ref ac, .ref au, .ref ab, .ref ae, .ref am, .ref ap, .int sz0, .ref ak, .ref al, .ref af, .ref an, .int (nI (n + 1)), .ref ar, .int sm])), (ac, .inl (cJ, 64, .inl ks_k)), (au, .inl (cJ, 16, .inl ks_tt)), (ae, .inl (cJ, 4, .inl ks_tmI)), (am, .inl (cJ, 4, .inl ks_moI)), (al, .inl (cJ, 64, .inl bl1)), (af, .inl (cJ, 4, .inl fr)), (an, .inl (cJ, 4, .inl y))] ∧ va_S A s.heap H locs) 4 ?_ ?_ 0 fn ls _ _ (Nat.zero_le _) ⟨fun j hj => absurd hj (Nat.not_lt_zero j), lv_sub hl [0, 1] rfl, hP, hD, hS⟩
    · skip
      intro i y ls H locs hlt hI ih
      obtain ⟨hv, hl, hP, hD, hS⟩ := hI
      refine lv_iload_n hx hb dX2_come_40 rfl (lv_at hl 0 rfl) ?_
      refine lv_iconst (v := 4) hx hb dX2_come_41 (by decide) ?_
      refine lv_icmp_ge (tgt := 63) hx hb dX2_come_42 (by decide) (fun hc => ?_) (fun hc => ?_)
      · skip
        exact absurd hc (nI_ge (a := i) (b := 4) hlt (by decide))
      · skip
        refine lv_aload_n hx hb dX2_come_45 rfl (lv_at hl 1 rfl) ?_
        refine va_get (D := (dC, dI)) (ci := 2) (v := .ref an) (C := RX2) (T := TX2) (N := 14) hx hb hts (by decide +kernel) hown hK hP 0 rfl rfl 10 (by decide) (hts (.fieldLink RX2 105 "KeySumsModel" "now" "[I") (by decide +kernel)) (fun _ h9 => h9) rfl dX2_come_46 ?_
        refine lv_iload_n hx hb dX2_come_49 rfl (lv_at hl 0 rfl) ?_
        refine lv_aload_n hx hb dX2_come_50 rfl (lv_at hl 1 rfl) ?_
        refine va_get (D := (dC, dI)) (ci := 2) (v := .ref af) (C := RX2) (T := TX2) (N := 14) hx hb hts (by decide +kernel) hown hK hP 0 rfl rfl 9 (by decide) (hts (.fieldLink RX2 102 "KeySumsModel" "four" "[I") (by decide +kernel)) (fun _ h9 => h9) rfl dX2_come_51 ?_
        refine lv_iload_n hx hb dX2_come_54 rfl (lv_at hl 0 rfl) ?_
        refine kz_iald (j := i) hx hb hK hP 6 0 rfl rfl (hlt) (by decide) dX2_come_55 ?_
        refine kz_iast (j := i) hx hb hK hP hD hS 7 0 rfl rfl (hlt) (by decide) dX2_come_56 (fun H locs hP hD hS => ?_)
        have hP : va_P (dC, dI) vwCl [(h, .inr (2, [.ref ac, .ref au, .ref ab, .ref ae, .ref am, .ref ap, .int sz0, .ref ak, .ref al, .ref af, .ref an, .int (nI (n + 1)), .ref ar, .int sm])), (ac, .inl (cJ, 64, .inl ks_k)), (au, .inl (cJ, 16, .inl ks_tt)), (ae, .inl (cJ, 4, .inl ks_tmI)), (am, .inl (cJ, 4, .inl ks_moI)), (al, .inl (cJ, 64, .inl bl1)), (af, .inl (cJ, 4, .inl fr)), (an, .inl (cJ, 4, .inl (upd y i (fr i))))] H := hP
        have hD : va_D A [(h, .inr (2, [.ref ac, .ref au, .ref ab, .ref ae, .ref am, .ref ap, .int sz0, .ref ak, .ref al, .ref af, .ref an, .int (nI (n + 1)), .ref ar, .int sm])), (ac, .inl (cJ, 64, .inl ks_k)), (au, .inl (cJ, 16, .inl ks_tt)), (ae, .inl (cJ, 4, .inl ks_tmI)), (am, .inl (cJ, 4, .inl ks_moI)), (al, .inl (cJ, 64, .inl bl1)), (af, .inl (cJ, 4, .inl fr)), (an, .inl (cJ, 4, .inl (upd y i (fr i))))] := hD
        refine lv_iinc (v := nI (i + 1)) (lv' := [(2, .int (nI (i + 1))), (0, .ref h)]) hx hb dX2_come_57 hl (k := 0) rfl (nI_1 i) (by decide) rfl (fun ls hl => ?_)
        refine lv_goto (tgt := 40) hx hb dX2_come_60 (by decide) ?_
        refine ih _ ls H locs ⟨?_, lv_sub hl [0, 1] rfl, hP, hD, hS⟩
        intro j hj
        by_cases q : j = i
        · subst q; rw [pk_us]
        · rw [pk_un q]; exact hv j (by omega)
    · skip
      intro y ls H locs hI
      obtain ⟨hv, hl, hP, hD, hS⟩ := hI
      refine lv_iload_n hx hb dX2_come_40 rfl (lv_at hl 0 rfl) ?_
      refine lv_iconst (v := 4) hx hb dX2_come_41 (by decide) ?_
      refine lv_icmp_ge (tgt := 63) hx hb dX2_come_42 (by decide) (fun hc => ?_) (fun hc => ?_)
      · skip
        have hy : ks_4 y = ks_4 fr := by unfold ks_4; rw [hv 0 (by decide), hv 1 (by decide), hv 2 (by decide), hv 3 (by decide)]
        refine lv_iconst (v := 0) hx hb dX2_come_63 (by decide) ?_
        refine kz_top (y := nI 0) nI_0.symm ?_
        refine lv_istore_n (lv' := [(2, .int (nI 0)), (0, .ref h)]) hx hb dX2_come_64 rfl hl (by decide) rfl (fun ls hl => ?_)
        refine kz_loop (σ := Nat → Int32) (fun i y ls H locs => ks_4 y = ks_run (ks_lw bl1) (ks_4 fr) i ∧ lv_has ls 3 [(2, .int (nI i)), (0, .ref h)] ∧ va_P (dC, dI) vwCl [(h, .inr (2, [.ref ac, .ref au, .ref ab, .ref ae, .ref am, .ref ap, .int sz0, .ref ak, .ref al, .ref af, .ref an, .int (nI (n + 1)), .ref ar, .int sm])), (ac, .inl (cJ, 64, .inl ks_k)), (au, .inl (cJ, 16, .inl ks_tt)), (ae, .inl (cJ, 4, .inl ks_tmI)), (am, .inl (cJ, 4, .inl ks_moI)), (al, .inl (cJ, 64, .inl bl1)), (af, .inl (cJ, 4, .inl fr)), (an, .inl (cJ, 4, .inl y))] H ∧ va_D A [(h, .inr (2, [.ref ac, .ref au, .ref ab, .ref ae, .ref am, .ref ap, .int sz0, .ref ak, .ref al, .ref af, .ref an, .int (nI (n + 1)), .ref ar, .int sm])), (ac, .inl (cJ, 64, .inl ks_k)), (au, .inl (cJ, 16, .inl ks_tt)), (ae, .inl (cJ, 4, .inl ks_tmI)), (am, .inl (cJ, 4, .inl ks_moI)), (al, .inl (cJ, 64, .inl bl1)), (af, .inl (cJ, 4, .inl fr)), (an, .inl (cJ, 4, .inl y))] ∧ va_S A s.heap H locs) 64 ?_ ?_ 0 y ls _ _ (Nat.zero_le _) ⟨hy, lv_sub hl [0, 1] rfl, hP, hD, hS⟩
        · skip
          intro i y ls H locs hlt hI ih
          obtain ⟨hv, hl, hP, hD, hS⟩ := hI
          refine lv_iload_n hx hb dX2_come_65 rfl (lv_at hl 0 rfl) ?_
          refine lv_bipush (v := 64) hx hb dX2_come_66 (by decide) ?_
          refine lv_icmp_ge (tgt := 82) hx hb dX2_come_68 (by decide) (fun hc => ?_) (fun hc => ?_)
          · skip
            exact absurd hc (nI_ge (a := i) (b := 64) hlt (by decide))
          · skip
            refine lv_aload_n hx hb dX2_come_71 rfl (lv_at hl 1 rfl) ?_
            refine lv_iload_n hx hb dX2_come_72 rfl (lv_at hl 0 rfl) ?_
            have hPc := hP.sub (ws' := [(h, .inr (2, [.ref ac, .ref au, .ref ab, .ref ae, .ref am, .ref ap, .int sz0, .ref ak, .ref al, .ref af, .ref an, .int (nI (n + 1)), .ref ar, .int sm])), (ac, .inl (cJ, 64, .inl ks_k)), (au, .inl (cJ, 16, .inl ks_tt)), (ae, .inl (cJ, 4, .inl ks_tmI)), (am, .inl (cJ, 4, .inl ks_moI)), (al, .inl (cJ, 64, .inl bl1)), (an, .inl (cJ, 4, .inl y))]) [0, 1, 2, 3, 4, 5, 7] rfl
            have hDc := hD.sub (ws' := [(h, .inr (2, [.ref ac, .ref au, .ref ab, .ref ae, .ref am, .ref ap, .int sz0, .ref ak, .ref al, .ref af, .ref an, .int (nI (n + 1)), .ref ar, .int sm])), (ac, .inl (cJ, 64, .inl ks_k)), (au, .inl (cJ, 16, .inl ks_tt)), (ae, .inl (cJ, 4, .inl ks_tmI)), (am, .inl (cJ, 4, .inl ks_moI)), (al, .inl (cJ, 64, .inl bl1)), (an, .inl (cJ, 4, .inl y))]) [0, 1, 2, 3, 4, 5, 7] (by decide) rfl
            have hKc := hK.sub (tys' := [(cJ, .int)]) [0] rfl
            have hFc := va_free (wc := [(h, .inr (2, [.ref ac, .ref au, .ref ab, .ref ae, .ref am, .ref ap, .int sz0, .ref ak, .ref al, .ref af, .ref an, .int (nI (n + 1)), .ref ar, .int sm])), (ac, .inl (cJ, 64, .inl ks_k)), (au, .inl (cJ, 16, .inl ks_tt)), (ae, .inl (cJ, 4, .inl ks_tmI)), (am, .inl (cJ, 4, .inl ks_moI)), (al, .inl (cJ, 64, .inl bl1)), (an, .inl (cJ, 4, .inl y))]) hD hS hA [0, 1, 2, 3, 4, 5, 7] rfl
            refine va_callv (va_runV (As := [.int (nI i)]) (rest := []) ⟨hx, hb, hml, hown, hts⟩ (r_step l dC dI H.size h ac au ab ae am ap ak al af an ar cJ sz0 (nI (n + 1)) sm bl1 y i hlt) (cwV 1 hts gX2_come_X2_step rfl rfl rfl (by decide +kernel) ⟨Nat.le_of_ble_eq_true rfl, Nat.le_of_ble_eq_true rfl⟩) ⟨fun a U g mk q => by obtain ⟨q0, q1, qP, qK, qD⟩ := q; exact ⟨q0, q1, qP, va_K.moved (u := U) (U := U.calling g mk a) (Vm.Alike.refl U.vm) qK, qD⟩, va_recv hKc hPc (ci := 2) (q0 := 0) rfl rfl, fun U hU hW => ⟨rfl, by rw [hU], by rw [hU]; exact hPc, va_K.moved hW.alike hKc, hDc.weaken (fun _ _ _ _ => trivial)⟩⟩ rfl rfl hl.1 rfl (lv_room (Nat.le_of_ble_eq_true rfl)) dX2_come_73 ⟨Nat.zero_le _, Nat.zero_le _⟩) hS (fun q _ h => hFc q h) hFc (fun u t H1 locs ht hvm hw hB hz1 hk1 hS => ?_)
            obtain ⟨hP1, hK1, hD1⟩ := hB
            rw [ht] at hP1
            have hK1 := va_K.moved hvm.symm hK1
            try dsimp only at hw
            obtain ⟨hP, hD⟩ := va_join (wr := [(af, .inl (cJ, 4, .inl fr))]) (w1 := [(h, .inr (2, [.ref ac, .ref au, .ref ab, .ref ae, .ref am, .ref ap, .int sz0, .ref ak, .ref al, .ref af, .ref an, .int (nI (n + 1)), .ref ar, .int sm])), (ac, .inl (cJ, 64, .inl ks_k)), (au, .inl (cJ, 16, .inl ks_tt)), (ae, .inl (cJ, 4, .inl ks_tmI)), (am, .inl (cJ, 4, .inl ks_moI)), (al, .inl (cJ, 64, .inl bl1)), (an, .inl (cJ, 4, .inl u))]) hP hD [0, 1, 2, 3, 4, 5, 7] [6] rfl rfl (by decide) (by decide) hk1 hFc hP1 hD1
            have hP := hP.sub (ws' := [(h, .inr (2, [.ref ac, .ref au, .ref ab, .ref ae, .ref am, .ref ap, .int sz0, .ref ak, .ref al, .ref af, .ref an, .int (nI (n + 1)), .ref ar, .int sm])), (ac, .inl (cJ, 64, .inl ks_k)), (au, .inl (cJ, 16, .inl ks_tt)), (ae, .inl (cJ, 4, .inl ks_tmI)), (am, .inl (cJ, 4, .inl ks_moI)), (al, .inl (cJ, 64, .inl bl1)), (af, .inl (cJ, 4, .inl fr)), (an, .inl (cJ, 4, .inl u))]) [1, 2, 3, 4, 5, 6, 0, 7] rfl
            have hD := hD.sub (ws' := [(h, .inr (2, [.ref ac, .ref au, .ref ab, .ref ae, .ref am, .ref ap, .int sz0, .ref ak, .ref al, .ref af, .ref an, .int (nI (n + 1)), .ref ar, .int sm])), (ac, .inl (cJ, 64, .inl ks_k)), (au, .inl (cJ, 16, .inl ks_tt)), (ae, .inl (cJ, 4, .inl ks_tmI)), (am, .inl (cJ, 4, .inl ks_moI)), (al, .inl (cJ, 64, .inl bl1)), (af, .inl (cJ, 4, .inl fr)), (an, .inl (cJ, 4, .inl u))]) [1, 2, 3, 4, 5, 6, 0, 7] (by decide) rfl
            generalize H1 = H at hP hS ⊢
            have hP : va_P (dC, dI) vwCl [(h, .inr (2, [.ref ac, .ref au, .ref ab, .ref ae, .ref am, .ref ap, .int sz0, .ref ak, .ref al, .ref af, .ref an, .int (nI (n + 1)), .ref ar, .int sm])), (ac, .inl (cJ, 64, .inl ks_k)), (au, .inl (cJ, 16, .inl ks_tt)), (ae, .inl (cJ, 4, .inl ks_tmI)), (am, .inl (cJ, 4, .inl ks_moI)), (al, .inl (cJ, 64, .inl bl1)), (af, .inl (cJ, 4, .inl fr)), (an, .inl (cJ, 4, .inl u))] H := hP
            have hD : va_D A [(h, .inr (2, [.ref ac, .ref au, .ref ab, .ref ae, .ref am, .ref ap, .int sz0, .ref ak, .ref al, .ref af, .ref an, .int (nI (n + 1)), .ref ar, .int sm])), (ac, .inl (cJ, 64, .inl ks_k)), (au, .inl (cJ, 16, .inl ks_tt)), (ae, .inl (cJ, 4, .inl ks_tmI)), (am, .inl (cJ, 4, .inl ks_moI)), (al, .inl (cJ, 64, .inl bl1)), (af, .inl (cJ, 4, .inl fr)), (an, .inl (cJ, 4, .inl u))] := hD
            refine lv_iinc (v := nI (i + 1)) (lv' := [(2, .int (nI (i + 1))), (0, .ref h)]) hx hb dX2_come_76 hl (k := 0) rfl (nI_1 i) (by decide) rfl (fun ls hl => ?_)
            refine lv_goto (tgt := 65) hx hb dX2_come_79 (by decide) ?_
            exact ih u ls H locs ⟨by rw [hw, hv]; rfl, lv_sub hl [0, 1] rfl, hP, hD, hS⟩
        · skip
          intro y ls H locs hI
          obtain ⟨hv, hl, hP, hD, hS⟩ := hI
          refine lv_iload_n hx hb dX2_come_65 rfl (lv_at hl 0 rfl) ?_
          refine lv_bipush (v := 64) hx hb dX2_come_66 (by decide) ?_
          refine lv_icmp_ge (tgt := 82) hx hb dX2_come_68 (by decide) (fun hc => ?_) (fun hc => ?_)
          · skip
            refine lv_iconst (v := 0) hx hb dX2_come_82 (by decide) ?_
            refine kz_top (y := nI 0) nI_0.symm ?_
            refine lv_istore_n (lv' := [(2, .int (nI 0)), (0, .ref h)]) hx hb dX2_come_83 rfl hl (by decide) rfl (fun ls hl => ?_)
            refine kz_loop (σ := Nat → Int32) (fun i z ls H locs => (∀ j, j < i → z j = fr j + y j) ∧ (∀ j, i ≤ j → z j = fr j) ∧ lv_has ls 3 [(2, .int (nI i)), (0, .ref h)] ∧ va_P (dC, dI) vwCl [(h, .inr (2, [.ref ac, .ref au, .ref ab, .ref ae, .ref am, .ref ap, .int sz0, .ref ak, .ref al, .ref af, .ref an, .int (nI (n + 1)), .ref ar, .int sm])), (ac, .inl (cJ, 64, .inl ks_k)), (au, .inl (cJ, 16, .inl ks_tt)), (ae, .inl (cJ, 4, .inl ks_tmI)), (am, .inl (cJ, 4, .inl ks_moI)), (al, .inl (cJ, 64, .inl bl1)), (af, .inl (cJ, 4, .inl z)), (an, .inl (cJ, 4, .inl y))] H ∧ va_D A [(h, .inr (2, [.ref ac, .ref au, .ref ab, .ref ae, .ref am, .ref ap, .int sz0, .ref ak, .ref al, .ref af, .ref an, .int (nI (n + 1)), .ref ar, .int sm])), (ac, .inl (cJ, 64, .inl ks_k)), (au, .inl (cJ, 16, .inl ks_tt)), (ae, .inl (cJ, 4, .inl ks_tmI)), (am, .inl (cJ, 4, .inl ks_moI)), (al, .inl (cJ, 64, .inl bl1)), (af, .inl (cJ, 4, .inl z)), (an, .inl (cJ, 4, .inl y))] ∧ va_S A s.heap H locs) 4 ?_ ?_ 0 fr ls _ _ (Nat.zero_le _) ⟨fun j hj => absurd hj (Nat.not_lt_zero j), fun _ _ => rfl, lv_sub hl [0, 1] rfl, hP, hD, hS⟩
            · skip
              intro i z ls H locs hlt hI ih
              obtain ⟨hz1, hz2, hl, hP, hD, hS⟩ := hI
              refine lv_iload_n hx hb dX2_come_84 rfl (lv_at hl 0 rfl) ?_
              refine lv_iconst (v := 4) hx hb dX2_come_85 (by decide) ?_
              refine lv_icmp_ge (tgt := 110) hx hb dX2_come_86 (by decide) (fun hc => ?_) (fun hc => ?_)
              · skip
                exact absurd hc (nI_ge (a := i) (b := 4) hlt (by decide))
              · skip
                refine lv_aload_n hx hb dX2_come_89 rfl (lv_at hl 1 rfl) ?_
                refine va_get (D := (dC, dI)) (ci := 2) (v := .ref af) (C := RX2) (T := TX2) (N := 14) hx hb hts (by decide +kernel) hown hK hP 0 rfl rfl 9 (by decide) (hts (.fieldLink RX2 102 "KeySumsModel" "four" "[I") (by decide +kernel)) (fun _ h9 => h9) rfl dX2_come_90 ?_
                refine lv_iload_n hx hb dX2_come_93 rfl (lv_at hl 0 rfl) ?_
                refine lv_dup2_11 hx hb dX2_come_94 rfl rfl ?_
                refine kz_iald (j := i) hx hb hK hP 6 0 rfl rfl (hlt) (by decide) dX2_come_95 ?_
                refine lv_aload_n hx hb dX2_come_96 rfl (lv_at hl 1 rfl) ?_
                refine va_get (D := (dC, dI)) (ci := 2) (v := .ref an) (C := RX2) (T := TX2) (N := 14) hx hb hts (by decide +kernel) hown hK hP 0 rfl rfl 10 (by decide) (hts (.fieldLink RX2 105 "KeySumsModel" "now" "[I") (by decide +kernel)) (fun _ h9 => h9) rfl dX2_come_97 ?_
                refine lv_iload_n hx hb dX2_come_100 rfl (lv_at hl 0 rfl) ?_
                refine kz_iald (j := i) hx hb hK hP 7 0 rfl rfl (hlt) (by decide) dX2_come_101 ?_
                refine lv_iadd hx hb dX2_come_102 ?_
                refine kz_iast (j := i) hx hb hK hP hD hS 6 0 rfl rfl (hlt) (by decide) dX2_come_103 (fun H locs hP hD hS => ?_)
                have hP : va_P (dC, dI) vwCl [(h, .inr (2, [.ref ac, .ref au, .ref ab, .ref ae, .ref am, .ref ap, .int sz0, .ref ak, .ref al, .ref af, .ref an, .int (nI (n + 1)), .ref ar, .int sm])), (ac, .inl (cJ, 64, .inl ks_k)), (au, .inl (cJ, 16, .inl ks_tt)), (ae, .inl (cJ, 4, .inl ks_tmI)), (am, .inl (cJ, 4, .inl ks_moI)), (al, .inl (cJ, 64, .inl bl1)), (af, .inl (cJ, 4, .inl (upd z i ((z i) + (y i))))), (an, .inl (cJ, 4, .inl y))] H := hP
                have hD : va_D A [(h, .inr (2, [.ref ac, .ref au, .ref ab, .ref ae, .ref am, .ref ap, .int sz0, .ref ak, .ref al, .ref af, .ref an, .int (nI (n + 1)), .ref ar, .int sm])), (ac, .inl (cJ, 64, .inl ks_k)), (au, .inl (cJ, 16, .inl ks_tt)), (ae, .inl (cJ, 4, .inl ks_tmI)), (am, .inl (cJ, 4, .inl ks_moI)), (al, .inl (cJ, 64, .inl bl1)), (af, .inl (cJ, 4, .inl (upd z i ((z i) + (y i))))), (an, .inl (cJ, 4, .inl y))] := hD
                refine lv_iinc (v := nI (i + 1)) (lv' := [(2, .int (nI (i + 1))), (0, .ref h)]) hx hb dX2_come_104 hl (k := 0) rfl (nI_1 i) (by decide) rfl (fun ls hl => ?_)
                refine lv_goto (tgt := 84) hx hb dX2_come_107 (by decide) ?_
                refine ih _ ls H locs ⟨?_, ?_, lv_sub hl [0, 1] rfl, hP, hD, hS⟩
                · intro j hj
                  by_cases q : j = i
                  · subst q; rw [pk_us, hz2 j (Nat.le_refl j)]
                  · rw [pk_un q]; exact hz1 j (by omega)
                · intro j hj
                  rw [pk_un (show j ≠ i by omega)]; exact hz2 j (by omega)
            · skip
              intro z ls H locs hI
              obtain ⟨hz1, hz2, hl, hP, hD, hS⟩ := hI
              refine lv_iload_n hx hb dX2_come_84 rfl (lv_at hl 0 rfl) ?_
              refine lv_iconst (v := 4) hx hb dX2_come_85 (by decide) ?_
              refine lv_icmp_ge (tgt := 110) hx hb dX2_come_86 (by decide) (fun hc => ?_) (fun hc => ?_)
              · skip
                have hm : ks_4 z = ks_mix (ks_lw bl1) (ks_4 fr) := by
                  unfold ks_mix
                  rw [← hv]
                  unfold ks_4
                  rw [hz1 0 (by decide), hz1 1 (by decide), hz1 2 (by decide), hz1 3 (by decide)]
                rw [← hbl] at hm
                have hi2 := rf_full hi hfx hz hm
                rw [hbl] at hi2
                have hP9 := hP.sub (ws' := [(h, .inr (2, [.ref ac, .ref au, .ref ab, .ref ae, .ref am, .ref ap, .int sz0, .ref ak, .ref al, .ref af, .ref an, .int (nI (n + 1)), .ref ar, .int sm])), (ac, .inl (cJ, 64, .inl ks_k)), (au, .inl (cJ, 16, .inl ks_tt)), (ae, .inl (cJ, 4, .inl ks_tmI)), (am, .inl (cJ, 4, .inl ks_moI)), (al, .inl (cJ, 64, .inl bl1)), (af, .inl (cJ, 4, .inl z)), (an, .inl (cJ, 4, .inl y))]) [0, 1, 2, 3, 4, 5, 6, 7] rfl
                have hD9 := hD.sub (ws' := [(h, .inr (2, [.ref ac, .ref au, .ref ab, .ref ae, .ref am, .ref ap, .int sz0, .ref ak, .ref al, .ref af, .ref an, .int (nI (n + 1)), .ref ar, .int sm])), (ac, .inl (cJ, 64, .inl ks_k)), (au, .inl (cJ, 16, .inl ks_tt)), (ae, .inl (cJ, 4, .inl ks_tmI)), (am, .inl (cJ, 4, .inl ks_moI)), (al, .inl (cJ, 64, .inl bl1)), (af, .inl (cJ, 4, .inl z)), (an, .inl (cJ, 4, .inl y))]) [0, 1, 2, 3, 4, 5, 6, 7] (by decide) rfl
                have hK9 := hK.sub (tys' := [(cJ, .int)]) [0] rfl
                exact W.vret hx hb hr (fun t ht hW => ⟨⟨(bl1, z, y), rfl, hi2, by rw [ht]; exact hP9, va_K.moved hW.alike hK9, hD9⟩, hS.F ht⟩) hS.2.2 dX2_come_110
              · skip
                exact absurd (nI_le (a := 4) (b := 4) (Nat.le_refl _) (by decide)) hc
          · skip
            exact absurd (nI_le (a := 64) (b := 64) (Nat.le_refl _) (by decide)) hc
      · skip
        exact absurd (nI_le (a := 4) (b := 4) (Nat.le_refl _) (by decide)) hc
  · skip
    have hz : (n + 1) % 64 ≠ 0 := fun q => hc (by rw [q]; decide)
    have hi2 := rf_put hi hfx hz
    rw [hbl] at hi2
    have hP9 := hP.sub (ws' := [(h, .inr (2, [.ref ac, .ref au, .ref ab, .ref ae, .ref am, .ref ap, .int sz0, .ref ak, .ref al, .ref af, .ref an, .int (nI (n + 1)), .ref ar, .int sm])), (ac, .inl (cJ, 64, .inl ks_k)), (au, .inl (cJ, 16, .inl ks_tt)), (ae, .inl (cJ, 4, .inl ks_tmI)), (am, .inl (cJ, 4, .inl ks_moI)), (al, .inl (cJ, 64, .inl bl1)), (af, .inl (cJ, 4, .inl fr)), (an, .inl (cJ, 4, .inl fn))]) [0, 1, 2, 3, 4, 5, 6, 7] rfl
    have hD9 := hD.sub (ws' := [(h, .inr (2, [.ref ac, .ref au, .ref ab, .ref ae, .ref am, .ref ap, .int sz0, .ref ak, .ref al, .ref af, .ref an, .int (nI (n + 1)), .ref ar, .int sm])), (ac, .inl (cJ, 64, .inl ks_k)), (au, .inl (cJ, 16, .inl ks_tt)), (ae, .inl (cJ, 4, .inl ks_tmI)), (am, .inl (cJ, 4, .inl ks_moI)), (al, .inl (cJ, 64, .inl bl1)), (af, .inl (cJ, 4, .inl fr)), (an, .inl (cJ, 4, .inl fn))]) [0, 1, 2, 3, 4, 5, 6, 7] (by decide) rfl
    have hK9 := hK.sub (tys' := [(cJ, .int)]) [0] rfl
    exact W.vret hx hb hr (fun t ht hW => ⟨⟨(bl1, fr, fn), rfl, hi2, by rw [ht]; exact hP9, va_K.moved hW.alike hK9, hD9⟩, hS.F ht⟩) hS.2.2 dX2_come_37
