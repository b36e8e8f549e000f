set_option maxHeartbeats 4000000 in
set_option maxRecDepth 100000 in
/-- anew -/
theorem r_anew (l : Launch) (dC : Nat → ClassId) (dI : Nat → Nat → Nat) (sz : Nat) (h ac au ab ae am ap ak al af an ar : Nat) (cJ : ClassId) (sz0 mm sm : Int32) (fb fr : Nat → Int32) : Met l yX2_anew wsX2_anew ({ frames := 0, cells := 0, slots := 0, locals := 0 }) (va_Pc [.ref h] (fun U => U.heap.size = sz ∧ va_P (dC, dI) vwCl [(h, .inr (2, [.ref ac, .ref au, .ref ab, .ref ae, .ref am, .ref ap, .int sz0, .ref ak, .ref al, .ref af, .ref an, .int mm, .ref ar, .int sm])), (ab, .inl (cJ, 4, .inl fb)), (af, .inl (cJ, 4, .inl fr))] U.heap ∧ va_K (dC, dI) vwCl [(cJ, .int)] U ∧ va_D (fun _ => True) [(h, .inr (2, [.ref ac, .ref au, .ref ab, .ref ae, .ref am, .ref ap, .int sz0, .ref ak, .ref al, .ref af, .ref an, .int mm, .ref ar, .int sm])), (ab, .inl (cJ, 4, .inl fb)), (af, .inl (cJ, 4, .inl fr))])) (va_Qv (fun u : Nat → Int32 => ∀ j, j < 4 → u j = fb j) (fun (u : Nat → Int32) t => kz_B dC dI [(cJ, .int)] (va_A [(h, .inr (2, [.ref ac, .ref au, .ref ab, .ref ae, .ref am, .ref ap, .int sz0, .ref ak, .ref al, .ref af, .ref an, .int mm, .ref ar, .int sm])), (ab, .inl (cJ, 4, .inl fb)), (af, .inl (cJ, 4, .inl fr))] sz) [(h, .inr (2, [.ref ac, .ref au, .ref ab, .ref ae, .ref am, .ref ap, .int sz0, .ref ak, .ref al, .ref af, .ref an, .int (nI 0), .ref ar, .int sm])), (ab, .inl (cJ, 4, .inl fb)), (af, .inl (cJ, 4, .inl u))] t) (va_A [(h, .inr (2, [.ref ac, .ref au, .ref ab, .ref ae, .ref am, .ref ap, .int sz0, .ref ak, .ref al, .ref af, .ref an, .int mm, .ref ar, .int sm])), (ab, .inl (cJ, 4, .inl fb)), (af, .inl (cJ, 4, .inl fr))] sz)) 0 0 (va_A [(h, .inr (2, [.ref ac, .ref au, .ref ab, .ref ae, .ref am, .ref ap, .int sz0, .ref ak, .ref al, .ref af, .ref an, .int mm, .ref ar, .int sm])), (ab, .inl (cJ, 4, .inl fb)), (af, .inl (cJ, 4, .inl fr))] sz) := by
  refine Met.ofW (cc := cX2_anew) (maxL := 2) (ret := none) (by decide) rfl ?_
  intro p e s m args below meth c s₁ B hml hv
  obtain ⟨rfl, hsz, hP, hK, hD0⟩ := hv
  have hx := B.exec
  have hb := B.bytes
  have hr := B.returns
  have hts := atoms_spec (ws := wsX2_anew) B.pre
  have hown : s.vm.findClass RX2 = some m.cls := findClass_of_methodNamed B.named
  have hlocks := B.notSynchronized
  subst hsz
  have hD := hD0.self (sz := s.heap.size)
  generalize hAe : va_A [(h, .inr (2, [.ref ac, .ref au, .ref ab, .ref ae, .ref am, .ref ap, .int sz0, .ref ak, .ref al, .ref af, .ref an, .int mm, .ref ar, .int sm])), (ab, .inl (cJ, 4, .inl fb)), (af, .inl (cJ, 4, .inl fr))] s.heap.size = A at hD  ⊢
  have hA : ∀ q : Nat, s.heap.size ≤ q → A q := fun q h => by rw [← hAe]; exact Or.inr h
  have hS : va_S A s.heap s.heap [] := va_S.rf
  have hP : va_P (dC, dI) vwCl [(h, .inr (2, [.ref ac, .ref au, .ref ab, .ref ae, .ref am, .ref ap, .int sz0, .ref ak, .ref al, .ref af, .ref an, .int mm, .ref ar, .int sm])), (ab, .inl (cJ, 4, .inl fb)), (af, .inl (cJ, 4, .inl fr))] s.heap := hP
  have hl := lv_entry ([.ref h]) (n := 2) (Nat.le_of_ble_eq_true rfl)
  rw [lg_entry_eq]
  generalize (lg_sl ([.ref h]) ++ List.replicate (2 - (lg_sl ([.ref h])).length) Slot.unset).toArray = ls at hl ⊢
  have hl : lv_has ls 2 [(0, .ref h)] := hl
  refine lv_aload_n hx hb dX2_anew_0 rfl (lv_at hl 0 rfl) ?_
  refine lv_iconst (v := 0) hx hb dX2_anew_1 (by decide) ?_
  refine kz_top (y := nI 0) nI_0.symm ?_
  refine va_put (D := (dC, dI)) (ci := 2) (v := .int (nI 0)) (ty := .int) (C := RX2) (T := TX2) (N := 14) hx hb hts (by decide +kernel) tyX2 tyX2_ok nmX2 hown hK hP hD hS 0 rfl rfl 11 (by decide) (hts (.fieldLink RX2 114 "KeySumsModel" "many" "I") (by decide +kernel)) (fun _ h9 => h9) rfl (by decide +kernel) rfl rfl (Nat.le_of_ble_eq_true rfl) dX2_anew_2 (fun H locs hP hD hS => ?_)
  have hP : va_P (dC, dI) vwCl [(h, .inr (2, [.ref ac, .ref au, .ref ab, .ref ae, .ref am, .ref ap, .int sz0, .ref ak, .ref al, .ref af, .ref an, .int (nI 0), .ref ar, .int sm])), (ab, .inl (cJ, 4, .inl fb)), (af, .inl (cJ, 4, .inl fr))] H := hP
  have hD : va_D A [(h, .inr (2, [.ref ac, .ref au, .ref ab, .ref ae, .ref am, .ref ap, .int sz0, .ref ak, .ref al, .ref af, .ref an, .int (nI 0), .ref ar, .int sm])), (ab, .inl (cJ, 4, .inl fb)), (af, .inl (cJ, 4, .inl fr))] := hD
  refine lv_iconst (v := 0) hx hb dX2_anew_5 (by decide) ?_
  refine kz_top (y := nI 0) nI_0.symm ?_
  refine lv_istore_n (lv' := [(1, .int (nI 0)), (0, .ref h)]) hx hb dX2_anew_6 rfl hl (by decide) rfl (fun ls hl => ?_)
  refine kz_loop (σ := Nat → Int32) (fun i x ls H locs => (∀ j, j < i → x j = fb j) ∧ lv_has ls 2 [(1, .int (nI i)), (0, .ref h)] ∧ va_P (dC, dI) vwCl [(h, .inr (2, [.ref ac, .ref au, .ref ab, .ref ae, .ref am, .ref ap, .int sz0, .ref ak, .ref al, .ref af, .ref an, .int (nI 0), .ref ar, .int sm])), (ab, .inl (cJ, 4, .inl fb)), (af, .inl (cJ, 4, .inl x))] H ∧ va_D A [(h, .inr (2, [.ref ac, .ref au, .ref ab, .ref ae, .ref am, .ref ap, .int sz0, .ref ak, .ref al, .ref af, .ref an, .int (nI 0), .ref ar, .int sm])), (ab, .inl (cJ, 4, .inl fb)), (af, .inl (cJ, 4, .inl x))] ∧ va_S A s.heap H locs) 4 ?_ ?_ 0 fr ls _ _ (Nat.zero_le _) ⟨fun j hj => absurd hj (Nat.not_lt_zero j), hl, hP, hD, hS⟩
  · skip
    intro i x ls H locs hlt hI ih
    obtain ⟨hv, hl, hP, hD, hS⟩ := hI
    refine lv_iload_n hx hb dX2_anew_7 rfl (lv_at hl 0 rfl) ?_
    refine lv_iconst (v := 4) hx hb dX2_anew_8 (by decide) ?_
    refine lv_icmp_ge (tgt := 30) hx hb dX2_anew_9 (by decide) (fun hc => ?_) (fun hc => ?_)
    · skip
      exact absurd hc (nI_ge (a := i) (b := 4) hlt (by decide))
    · skip
      refine lv_aload_n hx hb dX2_anew_12 rfl (lv_at hl 1 rfl) ?_
      refine va_get (D := (dC, dI)) (ci := 2) (v := .ref af) (C := RX2) (T := TX2) (N := 14) hx hb hts (by decide +kernel) hown hK hP 0 rfl rfl 9 (by decide) (hts (.fieldLink RX2 102 "KeySumsModel" "four" "[I") (by decide +kernel)) (fun _ h9 => h9) rfl dX2_anew_13 ?_
      refine lv_iload_n hx hb dX2_anew_16 rfl (lv_at hl 0 rfl) ?_
      refine lv_aload_n hx hb dX2_anew_17 rfl (lv_at hl 1 rfl) ?_
      refine va_get (D := (dC, dI)) (ci := 2) (v := .ref ab) (C := RX2) (T := TX2) (N := 14) hx hb hts (by decide +kernel) hown hK hP 0 rfl rfl 2 (by decide) (hts (.fieldLink RX2 84 "KeySumsModel" "begin" "[I") (by decide +kernel)) (fun _ h9 => h9) rfl dX2_anew_18 ?_
      refine lv_iload_n hx hb dX2_anew_21 rfl (lv_at hl 0 rfl) ?_
      refine kz_iald (j := i) hx hb hK hP 1 0 rfl rfl (hlt) (by decide) dX2_anew_22 ?_
      refine kz_iast (j := i) hx hb hK hP hD hS 2 0 rfl rfl (hlt) (by decide) dX2_anew_23 (fun H locs hP hD hS => ?_)
      have hP : va_P (dC, dI) vwCl [(h, .inr (2, [.ref ac, .ref au, .ref ab, .ref ae, .ref am, .ref ap, .int sz0, .ref ak, .ref al, .ref af, .ref an, .int (nI 0), .ref ar, .int sm])), (ab, .inl (cJ, 4, .inl fb)), (af, .inl (cJ, 4, .inl (upd x i (fb i))))] H := hP
      have hD : va_D A [(h, .inr (2, [.ref ac, .ref au, .ref ab, .ref ae, .ref am, .ref ap, .int sz0, .ref ak, .ref al, .ref af, .ref an, .int (nI 0), .ref ar, .int sm])), (ab, .inl (cJ, 4, .inl fb)), (af, .inl (cJ, 4, .inl (upd x i (fb i))))] := hD
      refine lv_iinc (v := nI (i + 1)) (lv' := [(1, .int (nI (i + 1))), (0, .ref h)]) hx hb dX2_anew_24 hl (k := 0) rfl (nI_1 i) (by decide) rfl (fun ls hl => ?_)
      refine lv_goto (tgt := 7) hx hb dX2_anew_27 (by decide) ?_
      refine ih _ ls H locs ⟨?_, lv_sub hl [0, 1] rfl, hP, hD, hS⟩
      intro j hj
      by_cases q : j = i
      · subst q; rw [pk_us]
      · rw [pk_un q]; exact hv j (by omega)
  · skip
    intro x ls H locs hI
    obtain ⟨hv, hl, hP, hD, hS⟩ := hI
    refine lv_iload_n hx hb dX2_anew_7 rfl (lv_at hl 0 rfl) ?_
    refine lv_iconst (v := 4) hx hb dX2_anew_8 (by decide) ?_
    refine lv_icmp_ge (tgt := 30) hx hb dX2_anew_9 (by decide) (fun hc => ?_) (fun hc => ?_)
    · skip
      have hP9 := hP.sub (ws' := [(h, .inr (2, [.ref ac, .ref au, .ref ab, .ref ae, .ref am, .ref ap, .int sz0, .ref ak, .ref al, .ref af, .ref an, .int (nI 0), .ref ar, .int sm])), (ab, .inl (cJ, 4, .inl fb)), (af, .inl (cJ, 4, .inl x))]) [0, 1, 2] rfl
      have hD9 := hD.sub (ws' := [(h, .inr (2, [.ref ac, .ref au, .ref ab, .ref ae, .ref am, .ref ap, .int sz0, .ref ak, .ref al, .ref af, .ref an, .int (nI 0), .ref ar, .int sm])), (ab, .inl (cJ, 4, .inl fb)), (af, .inl (cJ, 4, .inl x))]) [0, 1, 2] (by decide) rfl
      have hK9 := hK.sub (tys' := [(cJ, .int)]) [0] rfl
      exact W.vret hx hb hr (fun t ht hW => ⟨⟨x, rfl, hv, by rw [ht]; exact hP9, va_K.moved hW.alike hK9, hD9⟩, hS.F ht⟩) hS.2.2 dX2_anew_30
    · skip
      exact absurd (nI_le (a := 4) (b := 4) (Nat.le_refl _) (by decide)) hc

/-- four bytes, the highest first, as the check lays them -/
def ks_ly (ft : Nat → Int32) (k : Nat) (x : Int32) : Nat → Int32 := upd (upd (upd (upd ft k ((x >>> ((24 : Int32) &&& 31)) &&& 255)) (k + 1) ((x >>> ((16 : Int32) &&& 31)) &&& 255)) (k + 2) ((x >>> ((8 : Int32) &&& 31)) &&& 255)) (k + 3) ((x >>> ((0 : Int32) &&& 31)) &&& 255)

set_option maxHeartbeats 4000000 in
set_option maxRecDepth 100000 in
/-- lay -/
theorem r_lay (l : Launch) (dC : Nat → ClassId) (dI : Nat → Nat → Nat) (sz : Nat) (h ac au ab ae am ap ak al af an ar : Nat) (cJ : ClassId) (n : Nat) (mm sm : Int32) (ft : Nat → Int32) (x : Int32) (hn : n + 4 ≤ 2000) : Met l yX2_lay wsX2_lay ({ frames := 0, cells := 0, slots := 0, locals := 0 }) (va_Pc [.ref h, .int x] (fun U => U.heap.size = sz ∧ va_P (dC, dI) vwCl [(h, .inr (2, [.ref ac, .ref au, .ref ab, .ref ae, .ref am, .ref ap, .int (nI n), .ref ak, .ref al, .ref af, .ref an, .int mm, .ref ar, .int sm])), (ap, .inl (cJ, 2000, .inl ft))] U.heap ∧ va_K (dC, dI) vwCl [(cJ, .int)] U ∧ va_D (fun _ => True) [(h, .inr (2, [.ref ac, .ref au, .ref ab, .ref ae, .ref am, .ref ap, .int (nI n), .ref ak, .ref al, .ref af, .ref an, .int mm, .ref ar, .int sm])), (ap, .inl (cJ, 2000, .inl ft))])) (va_Qv (fun _u : Unit => True) (fun (_u : Unit) t => kz_B dC dI [(cJ, .int)] (va_A [(h, .inr (2, [.ref ac, .ref au, .ref ab, .ref ae, .ref am, .ref ap, .int (nI n), .ref ak, .ref al, .ref af, .ref an, .int mm, .ref ar, .int sm])), (ap, .inl (cJ, 2000, .inl ft))] sz) [(h, .inr (2, [.ref ac, .ref au, .ref ab, .ref ae, .ref am, .ref ap, .int (nI (n + 4)), .ref ak, .ref al, .ref af, .ref an, .int mm, .ref ar, .int sm])), (ap, .inl (cJ, 2000, .inl (ks_ly ft n x)))] t) (va_A [(h, .inr (2, [.ref ac, .ref au, .ref ab, .ref ae, .ref am, .ref ap, .int (nI n), .ref ak, .ref al, .ref af, .ref an, .int mm, .ref ar, .int sm])), (ap, .inl (cJ, 2000, .inl ft))] sz)) 0 0 (va_A [(h, .inr (2, [.ref ac, .ref au, .ref ab, .ref ae, .ref am, .ref ap, .int (nI n), .ref ak, .ref al, .ref af, .ref an, .int mm, .ref ar, .int sm])), (ap, .inl (cJ, 2000, .inl ft))] sz) := by
  refine Met.ofW (cc := cX2_lay) (maxL := 3) (ret := none) (by decide) rfl ?_
  intro p e s m args below meth c s₁ B hml hv
  obtain ⟨rfl, hsz, hP, hK, hD0⟩ := hv
  have hx := B.exec
  have hb := B.bytes
  have hr := B.returns
  have hts := atoms_spec (ws := wsX2_lay) B.pre
  have hown : s.vm.findClass RX2 = some m.cls := findClass_of_methodNamed B.named
  have hlocks := B.notSynchronized
  subst hsz
  have hD := hD0.self (sz := s.heap.size)
  generalize hAe : va_A [(h, .inr (2, [.ref ac, .ref au, .ref ab, .ref ae, .ref am, .ref ap, .int (nI n), .ref ak, .ref al, .ref af, .ref an, .int mm, .ref ar, .int sm])), (ap, .inl (cJ, 2000, .inl ft))] s.heap.size = A at hD  ⊢
  have hA : ∀ q : Nat, s.heap.size ≤ q → A q := fun q h => by rw [← hAe]; exact Or.inr h
  have hS : va_S A s.heap s.heap [] := va_S.rf
  have hP : va_P (dC, dI) vwCl [(h, .inr (2, [.ref ac, .ref au, .ref ab, .ref ae, .ref am, .ref ap, .int (nI n), .ref ak, .ref al, .ref af, .ref an, .int mm, .ref ar, .int sm])), (ap, .inl (cJ, 2000, .inl ft))] s.heap := hP
  have hl := lv_entry ([.ref h, .int x]) (n := 3) (Nat.le_of_ble_eq_true rfl)
  rw [lg_entry_eq]
  generalize (lg_sl ([.ref h, .int x]) ++ List.replicate (3 - (lg_sl ([.ref h, .int x])).length) Slot.unset).toArray = ls at hl ⊢
  have hl : lv_has ls 3 [(0, .ref h), (1, .int x)] := hl
  refine lv_bipush (v := 24) hx hb dX2_lay_0 (by decide) ?_
  refine lv_istore_n (lv' := [(2, .int 24), (0, .ref h), (1, .int x)]) hx hb dX2_lay_2 rfl hl (by decide) rfl (fun ls hl => ?_)
  refine lv_iload_n hx hb dX2_lay_3 rfl (lv_at hl 0 rfl) ?_
  refine lv_if_lt (tgt := 39) hx hb dX2_lay_4 (by decide) (fun hc => ?_) (fun hc => ?_)
  · skip
    exact absurd hc (by decide)
  · skip
    refine lv_aload_n hx hb dX2_lay_7 rfl (lv_at hl 1 rfl) ?_
    refine va_get (D := (dC, dI)) (ci := 2) (v := .ref ap) (C := RX2) (T := TX2) (N := 14) hx hb hts (by decide +kernel) hown hK hP 0 rfl rfl 5 (by decide) (hts (.fieldLink RX2 93 "KeySumsModel" "tape" "[I") (by decide +kernel)) (fun _ h9 => h9) rfl dX2_lay_8 ?_
    refine lv_aload_n hx hb dX2_lay_11 rfl (lv_at hl 1 rfl) ?_
    refine va_get (D := (dC, dI)) (ci := 2) (v := .int (nI n)) (C := RX2) (T := TX2) (N := 14) hx hb hts (by decide +kernel) hown hK hP 0 rfl rfl 6 (by decide) (hts (.fieldLink RX2 118 "KeySumsModel" "size" "I") (by decide +kernel)) (fun _ h9 => h9) rfl dX2_lay_12 ?_
    refine lv_iload_n hx hb dX2_lay_15 rfl (lv_at hl 2 rfl) ?_
    refine lv_iload_n hx hb dX2_lay_16 rfl (lv_at hl 0 rfl) ?_
    refine lv_ishr hx hb dX2_lay_17 ?_
    refine lv_sipush (v := 255) hx hb dX2_lay_18 (by decide) ?_
    refine lv_iand hx hb dX2_lay_21 ?_
    refine kz_iast (j := n) hx hb hK hP hD hS 1 0 rfl rfl (show n < 2000 by omega) (by decide) dX2_lay_22 (fun H locs hP hD hS => ?_)
    have hP : va_P (dC, dI) vwCl [(h, .inr (2, [.ref ac, .ref au, .ref ab, .ref ae, .ref am, .ref ap, .int (nI n), .ref ak, .ref al, .ref af, .ref an, .int mm, .ref ar, .int sm])), (ap, .inl (cJ, 2000, .inl (upd ft n ((x >>> (24 &&& 31)) &&& 255))))] H := hP
    have hD : va_D A [(h, .inr (2, [.ref ac, .ref au, .ref ab, .ref ae, .ref am, .ref ap, .int (nI n), .ref ak, .ref al, .ref af, .ref an, .int mm, .ref ar, .int sm])), (ap, .inl (cJ, 2000, .inl (upd ft n ((x >>> (24 &&& 31)) &&& 255))))] := hD
    refine lv_aload_n hx hb dX2_lay_23 rfl (lv_at hl 1 rfl) ?_
    refine lv_dup hx hb dX2_lay_24 rfl ?_
    refine va_get (D := (dC, dI)) (ci := 2) (v := .int (nI n)) (C := RX2) (T := TX2) (N := 14) hx hb hts (by decide +kernel) hown hK hP 0 rfl rfl 6 (by decide) (hts (.fieldLink RX2 118 "KeySumsModel" "size" "I") (by decide +kernel)) (fun _ h9 => h9) rfl dX2_lay_25 ?_
    refine lv_iconst (v := 1) hx hb dX2_lay_28 (by decide) ?_
    refine lv_iadd hx hb dX2_lay_29 ?_
    refine kz_top (y := nI (n + 1)) (nI_add n 1) ?_
    refine va_put (D := (dC, dI)) (ci := 2) (v := .int (nI (n + 1))) (ty := .int) (C := RX2) (T := TX2) (N := 14) hx hb hts (by decide +kernel) tyX2 tyX2_ok nmX2 hown hK hP hD hS 0 rfl rfl 6 (by decide) (hts (.fieldLink RX2 118 "KeySumsModel" "size" "I") (by decide +kernel)) (fun _ h9 => h9) rfl (by decide +kernel) rfl rfl (Nat.le_of_ble_eq_true rfl) dX2_lay_30 (fun H locs hP hD hS => ?_)
    have hP : va_P (dC, dI) vwCl [(h, .inr (2, [.ref ac, .ref au, .ref ab, .ref ae, .ref am, .ref ap, .int (nI (n + 1)), .ref ak, .ref al, .ref af, .ref an, .int mm, .ref ar, .int sm])), (ap, .inl (cJ, 2000, .inl (upd ft n ((x >>> (24 &&& 31)) &&& 255))))] H := hP
    have hD : va_D A [(h, .inr (2, [.ref ac, .ref au, .ref ab, .ref ae, .ref am, .ref ap, .int (nI (n + 1)), .ref ak, .ref al, .ref af, .ref an, .int mm, .ref ar, .int sm])), (ap, .inl (cJ, 2000, .inl (upd ft n ((x >>> (24 &&& 31)) &&& 255))))] := hD
    refine lv_iinc (v := 16) (lv' := [(2, .int 16), (0, .ref h), (1, .int x)]) hx hb dX2_lay_33 hl (k := 0) rfl (by decide) (by decide) rfl (fun ls hl => ?_)
    refine lv_goto (tgt := 3) hx hb dX2_lay_36 (by decide) ?_
    refine lv_iload_n hx hb dX2_lay_3 rfl (lv_at hl 0 rfl) ?_
    refine lv_if_lt (tgt := 39) hx hb dX2_lay_4 (by decide) (fun hc => ?_) (fun hc => ?_)
    · skip
      exact absurd hc (by decide)
    · skip
      refine lv_aload_n hx hb dX2_lay_7 rfl (lv_at hl 1 rfl) ?_
      refine va_get (D := (dC, dI)) (ci := 2) (v := .ref ap) (C := RX2) (T := TX2) (N := 14) hx hb hts (by decide +kernel) hown hK hP 0 rfl rfl 5 (by decide) (hts (.fieldLink RX2 93 "KeySumsModel" "tape" "[I") (by decide +kernel)) (fun _ h9 => h9) rfl dX2_lay_8 ?_
      refine lv_aload_n hx hb dX2_lay_11 rfl (lv_at hl 1 rfl) ?_
      refine va_get (D := (dC, dI)) (ci := 2) (v := .int (nI (n + 1))) (C := RX2) (T := TX2) (N := 14) hx hb hts (by decide +kernel) hown hK hP 0 rfl rfl 6 (by decide) (hts (.fieldLink RX2 118 "KeySumsModel" "size" "I") (by decide +kernel)) (fun _ h9 => h9) rfl dX2_lay_12 ?_
      refine lv_iload_n hx hb dX2_lay_15 rfl (lv_at hl 2 rfl) ?_
      refine lv_iload_n hx hb dX2_lay_16 rfl (lv_at hl 0 rfl) ?_
      refine lv_ishr hx hb dX2_lay_17 ?_
      refine lv_sipush (v := 255) hx hb dX2_lay_18 (by decide) ?_
      refine lv_iand hx hb dX2_lay_21 ?_
      refine kz_iast (j := (n + 1)) hx hb hK hP hD hS 1 0 rfl rfl (show (n + 1) < 2000 by omega) (by decide) dX2_lay_22 (fun H locs hP hD hS => ?_)
      have hP : va_P (dC, dI) vwCl [(h, .inr (2, [.ref ac, .ref au, .ref ab, .ref ae, .ref am, .ref ap, .int (nI (n + 1)), .ref ak, .ref al, .ref af, .ref an, .int mm, .ref ar, .int sm])), (ap, .inl (cJ, 2000, .inl (upd (upd ft n ((x >>> (24 &&& 31)) &&& 255)) (n + 1) ((x >>> (16 &&& 31)) &&& 255))))] H := hP
      have hD : va_D A [(h, .inr (2, [.ref ac, .ref au, .ref ab, .ref ae, .ref am, .ref ap, .int (nI (n + 1)), .ref ak, .ref al, .ref af, .ref an, .int mm, .ref ar, .int sm])), (ap, .inl (cJ, 2000, .inl (upd (upd ft n ((x >>> (24 &&& 31)) &&& 255)) (n + 1) ((x >>> (16 &&& 31)) &&& 255))))] := hD
      refine lv_aload_n hx hb dX2_lay_23 rfl (lv_at hl 1 rfl) ?_
      refine lv_dup hx hb dX2_lay_24 rfl ?_
      refine va_get (D := (dC, dI)) (ci := 2) (v := .int (nI (n + 1))) (C := RX2) (T := TX2) (N := 14) hx hb hts (by decide +kernel) hown hK hP 0 rfl rfl 6 (by decide) (hts (.fieldLink RX2 118 "KeySumsModel" "size" "I") (by decide +kernel)) (fun _ h9 => h9) rfl dX2_lay_25 ?_
      refine lv_iconst (v := 1) hx hb dX2_lay_28 (by decide) ?_
      refine lv_iadd hx hb dX2_lay_29 ?_
      refine kz_top (y := nI (n + 2)) (nI_add (n + 1) 1) ?_
      refine va_put (D := (dC, dI)) (ci := 2) (v := .int (nI (n + 2))) (ty := .int) (C := RX2) (T := TX2) (N := 14) hx hb hts (by decide +kernel) tyX2 tyX2_ok nmX2 hown hK hP hD hS 0 rfl rfl 6 (by decide) (hts (.fieldLink RX2 118 "KeySumsModel" "size" "I") (by decide +kernel)) (fun _ h9 => h9) rfl (by decide +kernel) rfl rfl (Nat.le_of_ble_eq_true rfl) dX2_lay_30 (fun H locs hP hD hS => ?_)
      have hP : va_P (dC, dI) vwCl [(h, .inr (2, [.ref ac, .ref au, .ref ab, .ref ae, .ref am, .ref ap, .int (nI (n + 2)), .ref ak, .ref al, .ref af, .ref an, .int mm, .ref ar, .int sm])), (ap, .inl (cJ, 2000, .inl (upd (upd ft n ((x >>> (24 &&& 31)) &&& 255)) (n + 1) ((x >>> (16 &&& 31)) &&& 255))))] H := hP
      have hD : va_D A [(h, .inr (2, [.ref ac, .ref au, .ref ab, .ref ae, .ref am, .ref ap, .int (nI (n + 2)), .ref ak, .ref al, .ref af, .ref an, .int mm, .ref ar, .int sm])), (ap, .inl (cJ, 2000, .inl (upd (upd ft n ((x >>> (24 &&& 31)) &&& 255)) (n + 1) ((x >>> (16 &&& 31)) &&& 255))))] := hD
      refine lv_iinc (v := 8) (lv' := [(2, .int 8), (0, .ref h), (1, .int x)]) hx hb dX2_lay_33 hl (k := 0) rfl (by decide) (by decide) rfl (fun ls hl => ?_)
      refine lv_goto (tgt := 3) hx hb dX2_lay_36 (by decide) ?_
      refine lv_iload_n hx hb dX2_lay_3 rfl (lv_at hl 0 rfl) ?_
      refine lv_if_lt (tgt := 39) hx hb dX2_lay_4 (by decide) (fun hc => ?_) (fun hc => ?_)
      · skip
        exact absurd hc (by decide)
      · skip
        refine lv_aload_n hx hb dX2_lay_7 rfl (lv_at hl 1 rfl) ?_
        refine va_get (D := (dC, dI)) (ci := 2) (v := .ref ap) (C := RX2) (T := TX2) (N := 14) hx hb hts (by decide +kernel) hown hK hP 0 rfl rfl 5 (by decide) (hts (.fieldLink RX2 93 "KeySumsModel" "tape" "[I") (by decide +kernel)) (fun _ h9 => h9) rfl dX2_lay_8 ?_
        refine lv_aload_n hx hb dX2_lay_11 rfl (lv_at hl 1 rfl) ?_
        refine va_get (D := (dC, dI)) (ci := 2) (v := .int (nI (n + 2))) (C := RX2) (T := TX2) (N := 14) hx hb hts (by decide +kernel) hown hK hP 0 rfl rfl 6 (by decide) (hts (.fieldLink RX2 118 "KeySumsModel" "size" "I") (by decide +kernel)) (fun _ h9 => h9) rfl dX2_lay_12 ?_
        refine lv_iload_n hx hb dX2_lay_15 rfl (lv_at hl 2 rfl) ?_
        refine lv_iload_n hx hb dX2_lay_16 rfl (lv_at hl 0 rfl) ?_
        refine lv_ishr hx hb dX2_lay_17 ?_
        refine lv_sipush (v := 255) hx hb dX2_lay_18 (by decide) ?_
        refine lv_iand hx hb dX2_lay_21 ?_
        refine kz_iast (j := (n + 2)) hx hb hK hP hD hS 1 0 rfl rfl (show (n + 2) < 2000 by omega) (by decide) dX2_lay_22 (fun H locs hP hD hS => ?_)
        have hP : va_P (dC, dI) vwCl [(h, .inr (2, [.ref ac, .ref au, .ref ab, .ref ae, .ref am, .ref ap, .int (nI (n + 2)), .ref ak, .ref al, .ref af, .ref an, .int mm, .ref ar, .int sm])), (ap, .inl (cJ, 2000, .inl (upd (upd (upd ft n ((x >>> (24 &&& 31)) &&& 255)) (n + 1) ((x >>> (16 &&& 31)) &&& 255)) (n + 2) ((x >>> (8 &&& 31)) &&& 255))))] H := hP
        have hD : va_D A [(h, .inr (2, [.ref ac, .ref au, .ref ab, .ref ae, .ref am, .ref ap, .int (nI (n + 2)), .ref ak, .ref al, .ref af, .ref an, .int mm, .ref ar, .int sm])), (ap, .inl (cJ, 2000, .inl (upd (upd (upd ft n ((x >>> (24 &&& 31)) &&& 255)) (n + 1) ((x >>> (16 &&& 31)) &&& 255)) (n + 2) ((x >>> (8 &&& 31)) &&& 255))))] := hD
        refine lv_aload_n hx hb dX2_lay_23 rfl (lv_at hl 1 rfl) ?_
        refine lv_dup hx hb dX2_lay_24 rfl ?_
        refine va_get (D := (dC, dI)) (ci := 2) (v := .int (nI (n + 2))) (C := RX2) (T := TX2) (N := 14) hx hb hts (by decide +kernel) hown hK hP 0 rfl rfl 6 (by decide) (hts (.fieldLink RX2 118 "KeySumsModel" "size" "I") (by decide +kernel)) (fun _ h9 => h9) rfl dX2_lay_25 ?_
        refine lv_iconst (v := 1) hx hb dX2_lay_28 (by decide) ?_
        refine lv_iadd hx hb dX2_lay_29 ?_
        refine kz_top (y := nI (n + 3)) (nI_add (n + 2) 1) ?_
        refine va_put (D := (dC, dI)) (ci := 2) (v := .int (nI (n + 3))) (ty := .int) (C := RX2) (T := TX2) (N := 14) hx hb hts (by decide +kernel) tyX2 tyX2_ok nmX2 hown hK hP hD hS 0 rfl rfl 6 (by decide) (hts (.fieldLink RX2 118 "KeySumsModel" "size" "I") (by decide +kernel)) (fun _ h9 => h9) rfl (by decide +kernel) rfl rfl (Nat.le_of_ble_eq_true rfl) dX2_lay_30 (fun H locs hP hD hS => ?_)
        have hP : va_P (dC, dI) vwCl [(h, .inr (2, [.ref ac, .ref au, .ref ab, .ref ae, .ref am, .ref ap, .int (nI (n + 3)), .ref ak, .ref al, .ref af, .ref an, .int mm, .ref ar, .int sm])), (ap, .inl (cJ, 2000, .inl (upd (upd (upd ft n ((x >>> (24 &&& 31)) &&& 255)) (n + 1) ((x >>> (16 &&& 31)) &&& 255)) (n + 2) ((x >>> (8 &&& 31)) &&& 255))))] H := hP
        have hD : va_D A [(h, .inr (2, [.ref ac, .ref au, .ref ab, .ref ae, .ref am, .ref ap, .int (nI (n + 3)), .ref ak, .ref al, .ref af, .ref an, .int mm, .ref ar, .int sm])), (ap, .inl (cJ, 2000, .inl (upd (upd (upd ft n ((x >>> (24 &&& 31)) &&& 255)) (n + 1) ((x >>> (16 &&& 31)) &&& 255)) (n + 2) ((x >>> (8 &&& 31)) &&& 255))))] := hD
        refine lv_iinc (v := 0) (lv' := [(2, .int 0), (0, .ref h), (1, .int x)]) hx hb dX2_lay_33 hl (k := 0) rfl (by decide) (by decide) rfl (fun ls hl => ?_)
        refine lv_goto (tgt := 3) hx hb dX2_lay_36 (by decide) ?_
        refine lv_iload_n hx hb dX2_lay_3 rfl (lv_at hl 0 rfl) ?_
        refine lv_if_lt (tgt := 39) hx hb dX2_lay_4 (by decide) (fun hc => ?_) (fun hc => ?_)
        · skip
          exact absurd hc (by decide)
        · skip
          refine lv_aload_n hx hb dX2_lay_7 rfl (lv_at hl 1 rfl) ?_
          refine va_get (D := (dC, dI)) (ci := 2) (v := .ref ap) (C := RX2) (T := TX2) (N := 14) hx hb hts (by decide +kernel) hown hK hP 0 rfl rfl 5 (by decide) (hts (.fieldLink RX2 93 "KeySumsModel" "tape" "[I") (by decide +kernel)) (fun _ h9 => h9) rfl dX2_lay_8 ?_
          refine lv_aload_n hx hb dX2_lay_11 rfl (lv_at hl 1 rfl) ?_
          refine va_get (D := (dC, dI)) (ci := 2) (v := .int (nI (n + 3))) (C := RX2) (T := TX2) (N := 14) hx hb hts (by decide +kernel) hown hK hP 0 rfl rfl 6 (by decide) (hts (.fieldLink RX2 118 "KeySumsModel" "size" "I") (by decide +kernel)) (fun _ h9 => h9) rfl dX2_lay_12 ?_
          refine lv_iload_n hx hb dX2_lay_15 rfl (lv_at hl 2 rfl) ?_
          refine lv_iload_n hx hb dX2_lay_16 rfl (lv_at hl 0 rfl) ?_
          refine lv_ishr hx hb dX2_lay_17 ?_
          refine lv_sipush (v := 255) hx hb dX2_lay_18 (by decide) ?_
          refine lv_iand hx hb dX2_lay_21 ?_
          refine kz_iast (j := (n + 3)) hx hb hK hP hD hS 1 0 rfl rfl (show (n + 3) < 2000 by omega) (by decide) dX2_lay_22 (fun H locs hP hD hS => ?_)
          have hP : va_P (dC, dI) vwCl [(h, .inr (2, [.ref ac, .ref au, .ref ab, .ref ae, .ref am, .ref ap, .int (nI (n + 3)), .ref ak, .ref al, .ref af, .ref an, .int mm, .ref ar, .int sm])), (ap, .inl (cJ, 2000, .inl (upd (upd (upd (upd ft n ((x >>> (24 &&& 31)) &&& 255)) (n + 1) ((x >>> (16 &&& 31)) &&& 255)) (n + 2) ((x >>> (8 &&& 31)) &&& 255)) (n + 3) ((x >>> (0 &&& 31)) &&& 255))))] H := hP
          have hD : va_D A [(h, .inr (2, [.ref ac, .ref au, .ref ab, .ref ae, .ref am, .ref ap, .int (nI (n + 3)), .ref ak, .ref al, .ref af, .ref an, .int mm, .ref ar, .int sm])), (ap, .inl (cJ, 2000, .inl (upd (upd (upd (upd ft n ((x >>> (24 &&& 31)) &&& 255)) (n + 1) ((x >>> (16 &&& 31)) &&& 255)) (n + 2) ((x >>> (8 &&& 31)) &&& 255)) (n + 3) ((x >>> (0 &&& 31)) &&& 255))))] := hD
          refine lv_aload_n hx hb dX2_lay_23 rfl (lv_at hl 1 rfl) ?_
          refine lv_dup hx hb dX2_lay_24 rfl ?_
          refine va_get (D := (dC, dI)) (ci := 2) (v := .int (nI (n + 3))) (C := RX2) (T := TX2) (N := 14) hx hb hts (by decide +kernel) hown hK hP 0 rfl rfl 6 (by decide) (hts (.fieldLink RX2 118 "KeySumsModel" "size" "I") (by decide +kernel)) (fun _ h9 => h9) rfl dX2_lay_25 ?_
          refine lv_iconst (v := 1) hx hb dX2_lay_28 (by decide) ?_
          refine lv_iadd hx hb dX2_lay_29 ?_
          refine kz_top (y := nI (n + 4)) (nI_add (n + 3) 1) ?_
          refine va_put (D := (dC, dI)) (ci := 2) (v := .int (nI (n + 4))) (ty := .int) (C := RX2) (T := TX2) (N := 14) hx hb hts (by decide +kernel) tyX2 tyX2_ok nmX2 hown hK hP hD hS 0 rfl rfl 6 (by decide) (hts (.fieldLink RX2 118 "KeySumsModel" "size" "I") (by decide +kernel)) (fun _ h9 => h9) rfl (by decide +kernel) rfl rfl (Nat.le_of_ble_eq_true rfl) dX2_lay_30 (fun H locs hP hD hS => ?_)
          have hP : va_P (dC, dI) vwCl [(h, .inr (2, [.ref ac, .ref au, .ref ab, .ref ae, .ref am, .ref ap, .int (nI (n + 4)), .ref ak, .ref al, .ref af, .ref an, .int mm, .ref ar, .int sm])), (ap, .inl (cJ, 2000, .inl (upd (upd (upd (upd ft n ((x >>> (24 &&& 31)) &&& 255)) (n + 1) ((x >>> (16 &&& 31)) &&& 255)) (n + 2) ((x >>> (8 &&& 31)) &&& 255)) (n + 3) ((x >>> (0 &&& 31)) &&& 255))))] H := hP
          have hD : va_D A [(h, .inr (2, [.ref ac, .ref au, .ref ab, .ref ae, .ref am, .ref ap, .int (nI (n + 4)), .ref ak, .ref al, .ref af, .ref an, .int mm, .ref ar, .int sm])), (ap, .inl (cJ, 2000, .inl (upd (upd (upd (upd ft n ((x >>> (24 &&& 31)) &&& 255)) (n + 1) ((x >>> (16 &&& 31)) &&& 255)) (n + 2) ((x >>> (8 &&& 31)) &&& 255)) (n + 3) ((x >>> (0 &&& 31)) &&& 255))))] := hD
          refine lv_iinc (v := (-8)) (lv' := [(2, .int (-8)), (0, .ref h), (1, .int x)]) hx hb dX2_lay_33 hl (k := 0) rfl (by decide) (by decide) rfl (fun ls hl => ?_)
          refine lv_goto (tgt := 3) hx hb dX2_lay_36 (by decide) ?_
          refine lv_iload_n hx hb dX2_lay_3 rfl (lv_at hl 0 rfl) ?_
          refine lv_if_lt (tgt := 39) hx hb dX2_lay_4 (by decide) (fun hc => ?_) (fun hc => ?_)
          · skip
            have hP9 := hP.sub (ws' := [(h, .inr (2, [.ref ac, .ref au, .ref ab, .ref ae, .ref am, .ref ap, .int (nI (n + 4)), .ref ak, .ref al, .ref af, .ref an, .int mm, .ref ar, .int sm])), (ap, .inl (cJ, 2000, .inl (ks_ly ft n x)))]) [0, 1] rfl
            have hD9 := hD.sub (ws' := [(h, .inr (2, [.ref ac, .ref au, .ref ab, .ref ae, .ref am, .ref ap, .int (nI (n + 4)), .ref ak, .ref al, .ref af, .ref an, .int mm, .ref ar, .int sm])), (ap, .inl (cJ, 2000, .inl (ks_ly ft n x)))]) [0, 1] (by decide) rfl
            have hK9 := hK.sub (tys' := [(cJ, .int)]) [0] rfl
            exact W.vret hx hb hr (fun t ht hW => ⟨⟨(), rfl, trivial, by rw [ht]; exact hP9, va_K.moved hW.alike hK9, hD9⟩, hS.F ht⟩) hS.2.2 dX2_lay_39
          · skip
            exact absurd (by decide) hc

set_option maxHeartbeats 4000000 in
set_option maxRecDepth 100000 in
/-- feed, refused -/
theorem r_feed_no (l : Launch) (dC : Nat → ClassId) (dI : Nat → Nat → Nat) (sz : Nat) (h ac au ab ae am ap ak al af an ar : Nat) (cJ : ClassId) (n : Nat) (mm sm : Int32) (ft : Nat → Int32) (xa xb xc xd xe : Int32) (h1 : 1980 < n) (h2 : n ≤ 2000) : Met l yX2_feed wsX2_feed ({ frames := 1, cells := 0, slots := 0, locals := 40 }) (va_Pc [.ref h, .int xa, .int xb, .int xc, .int xd, .int xe] (fun U => U.heap.size = sz ∧ va_P (dC, dI) vwCl [(h, .inr (2, [.ref ac, .ref au, .ref ab, .ref ae, .ref am, .ref ap, .int (nI n), .ref ak, .ref al, .ref af, .ref an, .int mm, .ref ar, .int sm])), (ap, .inl (cJ, 2000, .inl ft))] U.heap ∧ va_K (dC, dI) vwCl [(cJ, .int)] U ∧ va_D (fun _ => True) [(h, .inr (2, [.ref ac, .ref au, .ref ab, .ref ae, .ref am, .ref ap, .int (nI n), .ref ak, .ref al, .ref af, .ref an, .int mm, .ref ar, .int sm])), (ap, .inl (cJ, 2000, .inl ft))])) (va_Qi (fun (r : Int32) (_u : Unit) => r = 0) (fun (_u : Unit) t => kz_B dC dI [(cJ, .int)] (va_A [(h, .inr (2, [.ref ac, .ref au, .ref ab, .ref ae, .ref am, .ref ap, .int (nI n), .ref ak, .ref al, .ref af, .ref an, .int mm, .ref ar, .int sm])), (ap, .inl (cJ, 2000, .inl ft))] sz) [(h, .inr (2, [.ref ac, .ref au, .ref ab, .ref ae, .ref am, .ref ap, .int (nI n), .ref ak, .ref al, .ref af, .ref an, .int mm, .ref ar, .int sm])), (ap, .inl (cJ, 2000, .inl ft))] t) (va_A [(h, .inr (2, [.ref ac, .ref au, .ref ab, .ref ae, .ref am, .ref ap, .int (nI n), .ref ak, .ref al, .ref af, .ref an, .int mm, .ref ar, .int sm])), (ap, .inl (cJ, 2000, .inl ft))] sz)) 0 0 (va_A [(h, .inr (2, [.ref ac, .ref au, .ref ab, .ref ae, .ref am, .ref ap, .int (nI n), .ref ak, .ref al, .ref af, .ref an, .int mm, .ref ar, .int sm])), (ap, .inl (cJ, 2000, .inl ft))] sz) := by
  refine Met.ofW (cc := cX2_feed) (maxL := 6) (ret := (some .boolean)) (by decide) rfl ?_
  intro p e s m args below meth c s₁ B hml hv
  obtain ⟨rfl, hsz, hP, hK, hD0⟩ := hv
  have hx := B.exec
  have hb := B.bytes
  have hr := B.returns
  have hts := atoms_spec (ws := wsX2_feed) B.pre
  have hown : s.vm.findClass RX2 = some m.cls := findClass_of_methodNamed B.named
  have hlocks := B.notSynchronized
  subst hsz
  have hD := hD0.self (sz := s.heap.size)
  generalize hAe : va_A [(h, .inr (2, [.ref ac, .ref au, .ref ab, .ref ae, .ref am, .ref ap, .int (nI n), .ref ak, .ref al, .ref af, .ref an, .int mm, .ref ar, .int sm])), (ap, .inl (cJ, 2000, .inl ft))] s.heap.size = A at hD  ⊢
  have hA : ∀ q : Nat, s.heap.size ≤ q → A q := fun q h => by rw [← hAe]; exact Or.inr h
  have hS : va_S A s.heap s.heap [] := va_S.rf
  have hP : va_P (dC, dI) vwCl [(h, .inr (2, [.ref ac, .ref au, .ref ab, .ref ae, .ref am, .ref ap, .int (nI n), .ref ak, .ref al, .ref af, .ref an, .int mm, .ref ar, .int sm])), (ap, .inl (cJ, 2000, .inl ft))] s.heap := hP
  have hl := lv_entry ([.ref h, .int xa, .int xb, .int xc, .int xd, .int xe]) (n := 6) (Nat.le_of_ble_eq_true rfl)
  rw [lg_entry_eq]
  generalize (lg_sl ([.ref h, .int xa, .int xb, .int xc, .int xd, .int xe]) ++ List.replicate (6 - (lg_sl ([.ref h, .int xa, .int xb, .int xc, .int xd, .int xe])).length) Slot.unset).toArray = ls at hl ⊢
  have hl : lv_has ls 6 [(0, .ref h), (1, .int xa), (2, .int xb), (3, .int xc), (4, .int xd), (5, .int xe)] := hl
  refine lv_aload_n hx hb dX2_feed_0 rfl (lv_at hl 0 rfl) ?_
  refine va_get (D := (dC, dI)) (ci := 2) (v := .int (nI n)) (C := RX2) (T := TX2) (N := 14) hx hb hts (by decide +kernel) hown hK hP 0 rfl rfl 6 (by decide) (hts (.fieldLink RX2 118 "KeySumsModel" "size" "I") (by decide +kernel)) (fun _ h9 => h9) rfl dX2_feed_1 ?_
  refine lv_bipush (v := 20) hx hb dX2_feed_4 (by decide) ?_
  refine lv_iadd hx hb dX2_feed_6 ?_
  refine kz_top (y := nI (n + 20)) (nI_add n 20) ?_
  refine lv_sipush (v := 2000) hx hb dX2_feed_7 (by decide) ?_
  refine lv_icmp_le (tgt := 15) hx hb dX2_feed_10 (by decide) (fun hc => ?_) (fun hc => ?_)
  · skip
    exact absurd hc (nI_ge (a := 2000) (b := n + 20) (by omega) (by omega))
  · skip
    refine lv_iconst (v := 0) hx hb dX2_feed_13 (by decide) ?_
    have hP9 := hP.sub (ws' := [(h, .inr (2, [.ref ac, .ref au, .ref ab, .ref ae, .ref am, .ref ap, .int (nI n), .ref ak, .ref al, .ref af, .ref an, .int mm, .ref ar, .int sm])), (ap, .inl (cJ, 2000, .inl ft))]) [0, 1] rfl
    have hD9 := hD.sub (ws' := [(h, .inr (2, [.ref ac, .ref au, .ref ab, .ref ae, .ref am, .ref ap, .int (nI n), .ref ak, .ref al, .ref af, .ref an, .int mm, .ref ar, .int sm])), (ap, .inl (cJ, 2000, .inl ft))]) [0, 1] (by decide) rfl
    have hK9 := hK.sub (tys' := [(cJ, .int)]) [0] rfl
    exact W.zret (v := 0) (ty := .boolean) hx hb hr (by rfl) (fun t ht hW => ⟨⟨0, (), rfl, rfl, by rw [ht]; exact hP9, va_K.moved hW.alike hK9, hD9⟩, hS.F ht⟩) hS.2.2 dX2_feed_14

set_option maxHeartbeats 4000000 in
set_option maxRecDepth 100000 in
/-- feed -/
theorem r_feed_ok (l : Launch) (dC : Nat → ClassId) (dI : Nat → Nat → Nat) (sz : Nat) (h ac au ab ae am ap ak al af an ar : Nat) (cJ : ClassId) (n : Nat) (mm sm : Int32) (ft : Nat → Int32) (xa xb xc xd xe : Int32) (h1 : n ≤ 1980) : Met l yX2_feed wsX2_feed ({ frames := 1, cells := 0, slots := 0, locals := 40 }) (va_Pc [.ref h, .int xa, .int xb, .int xc, .int xd, .int xe] (fun U => U.heap.size = sz ∧ va_P (dC, dI) vwCl [(h, .inr (2, [.ref ac, .ref au, .ref ab, .ref ae, .ref am, .ref ap, .int (nI n), .ref ak, .ref al, .ref af, .ref an, .int mm, .ref ar, .int sm])), (ap, .inl (cJ, 2000, .inl ft))] U.heap ∧ va_K (dC, dI) vwCl [(cJ, .int)] U ∧ va_D (fun _ => True) [(h, .inr (2, [.ref ac, .ref au, .ref ab, .ref ae, .ref am, .ref ap, .int (nI n), .ref ak, .ref al, .ref af, .ref an, .int mm, .ref ar, .int sm])), (ap, .inl (cJ, 2000, .inl ft))])) (va_Qi (fun (r : Int32) (_u : Unit) => r = 1) (fun (_u : Unit) t => kz_B dC dI [(cJ, .int)] (va_A [(h, .inr (2, [.ref ac, .ref au, .ref ab, .ref ae, .ref am, .ref ap, .int (nI n), .ref ak, .ref al, .ref af, .ref an, .int mm, .ref ar, .int sm])), (ap, .inl (cJ, 2000, .inl ft))] sz) [(h, .inr (2, [.ref ac, .ref au, .ref ab, .ref ae, .ref am, .ref ap, .int (nI (n + 20)), .ref ak, .ref al, .ref af, .ref an, .int mm, .ref ar, .int sm])), (ap, .inl (cJ, 2000, .inl (ks_ly (ks_ly (ks_ly (ks_ly (ks_ly ft n xa) (n + 4) xb) (n + 8) xc) (n + 12) xd) (n + 16) xe)))] t) (va_A [(h, .inr (2, [.ref ac, .ref au, .ref ab, .ref ae, .ref am, .ref ap, .int (nI n), .ref ak, .ref al, .ref af, .ref an, .int mm, .ref ar, .int sm])), (ap, .inl (cJ, 2000, .inl ft))] sz)) 0 0 (va_A [(h, .inr (2, [.ref ac, .ref au, .ref ab, .ref ae, .ref am, .ref ap, .int (nI n), .ref ak, .ref al, .ref af, .ref an, .int mm, .ref ar, .int sm])), (ap, .inl (cJ, 2000, .inl ft))] sz) := by
  refine Met.ofW (cc := cX2_feed) (maxL := 6) (ret := (some .boolean)) (by decide) rfl ?_
  intro p e s m args below meth c s₁ B hml hv
  obtain ⟨rfl, hsz, hP, hK, hD0⟩ := hv
  have hx := B.exec
  have hb := B.bytes
  have hr := B.returns
  have hts := atoms_spec (ws := wsX2_feed) B.pre
  have hown : s.vm.findClass RX2 = some m.cls := findClass_of_methodNamed B.named
  have hlocks := B.notSynchronized
  subst hsz
  have hD := hD0.self (sz := s.heap.size)
  generalize hAe : va_A [(h, .inr (2, [.ref ac, .ref au, .ref ab, .ref ae, .ref am, .ref ap, .int (nI n), .ref ak, .ref al, .ref af, .ref an, .int mm, .ref ar, .int sm])), (ap, .inl (cJ, 2000, .inl ft))] s.heap.size = A at hD  ⊢
  have hA : ∀ q : Nat, s.heap.size ≤ q → A q := fun q h => by rw [← hAe]; exact Or.inr h
  have hS : va_S A s.heap s.heap [] := va_S.rf
  have hP : va_P (dC, dI) vwCl [(h, .inr (2, [.ref ac, .ref au, .ref ab, .ref ae, .ref am, .ref ap, .int (nI n), .ref ak, .ref al, .ref af, .ref an, .int mm, .ref ar, .int sm])), (ap, .inl (cJ, 2000, .inl ft))] s.heap := hP
  have hl := lv_entry ([.ref h, .int xa, .int xb, .int xc, .int xd, .int xe]) (n := 6) (Nat.le_of_ble_eq_true rfl)
  rw [lg_entry_eq]
  generalize (lg_sl ([.ref h, .int xa, .int xb, .int xc, .int xd, .int xe]) ++ List.replicate (6 - (lg_sl ([.ref h, .int xa, .int xb, .int xc, .int xd, .int xe])).length) Slot.unset).toArray = ls at hl ⊢
  have hl : lv_has ls 6 [(0, .ref h), (1, .int xa), (2, .int xb), (3, .int xc), (4, .int xd), (5, .int xe)] := hl
  refine lv_aload_n hx hb dX2_feed_0 rfl (lv_at hl 0 rfl) ?_
  refine va_get (D := (dC, dI)) (ci := 2) (v := .int (nI n)) (C := RX2) (T := TX2) (N := 14) hx hb hts (by decide +kernel) hown hK hP 0 rfl rfl 6 (by decide) (hts (.fieldLink RX2 118 "KeySumsModel" "size" "I") (by decide +kernel)) (fun _ h9 => h9) rfl dX2_feed_1 ?_
  refine lv_bipush (v := 20) hx hb dX2_feed_4 (by decide) ?_
  refine lv_iadd hx hb dX2_feed_6 ?_
  refine kz_top (y := nI (n + 20)) (nI_add n 20) ?_
  refine lv_sipush (v := 2000) hx hb dX2_feed_7 (by decide) ?_
  refine lv_icmp_le (tgt := 15) hx hb dX2_feed_10 (by decide) (fun hc => ?_) (fun hc => ?_)
  · skip
    refine lv_aload_n hx hb dX2_feed_15 rfl (lv_at hl 0 rfl) ?_
    refine lv_iload_n hx hb dX2_feed_16 rfl (lv_at hl 1 rfl) ?_
    have ho0 : n + 4 ≤ 2000 := by omega
    have hPc := hP.sub (ws' := [(h, .inr (2, [.ref ac, .ref au, .ref ab, .ref ae, .ref am, .ref ap, .int (nI n), .ref ak, .ref al, .ref af, .ref an, .int mm, .ref ar, .int sm])), (ap, .inl (cJ, 2000, .inl ft))]) [0, 1] rfl
    have hDc := hD.sub (ws' := [(h, .inr (2, [.ref ac, .ref au, .ref ab, .ref ae, .ref am, .ref ap, .int (nI n), .ref ak, .ref al, .ref af, .ref an, .int mm, .ref ar, .int sm])), (ap, .inl (cJ, 2000, .inl ft))]) [0, 1] (by decide) rfl
    have hKc := hK.sub (tys' := [(cJ, .int)]) [0] rfl
    have hFc := va_free (wc := [(h, .inr (2, [.ref ac, .ref au, .ref ab, .ref ae, .ref am, .ref ap, .int (nI n), .ref ak, .ref al, .ref af, .ref an, .int mm, .ref ar, .int sm])), (ap, .inl (cJ, 2000, .inl ft))]) hD hS hA [0, 1] rfl
    refine va_callv (va_runV (As := [.int xa]) (rest := []) ⟨hx, hb, hml, hown, hts⟩ (r_lay l dC dI s.heap.size h ac au ab ae am ap ak al af an ar cJ n mm sm ft xa ho0) (cwV 1 hts gX2_feed_X2_lay rfl rfl rfl (by decide +kernel) ⟨Nat.le_of_ble_eq_true rfl, Nat.le_of_ble_eq_true rfl⟩) ⟨fun a U g mk q => by obtain ⟨q0, q1, qP, qK, qD⟩ := q; exact ⟨q0, q1, qP, va_K.moved (u := U) (U := U.calling g mk a) (Vm.Alike.refl U.vm) qK, qD⟩, va_recv hKc hPc (ci := 2) (q0 := 0) rfl rfl, fun U hU hW => ⟨rfl, by rw [hU], by rw [hU]; exact hPc, va_K.moved hW.alike hKc, hDc.weaken (fun _ _ _ _ => trivial)⟩⟩ rfl rfl hl.1 rfl (lv_room (Nat.le_of_ble_eq_true rfl)) dX2_feed_17 ⟨Nat.zero_le _, Nat.zero_le _⟩) hS (fun q _ h => hFc q h) hFc (fun u t H1 locs ht hvm hw hB hz1 hk1 hS => ?_)
    obtain ⟨hP1, hK1, hD1⟩ := hB
    rw [ht] at hP1
    have hK1 := va_K.moved hvm.symm hK1
    try dsimp only at hw
    obtain ⟨hP, hD⟩ := va_join (wr := []) (w1 := [(h, .inr (2, [.ref ac, .ref au, .ref ab, .ref ae, .ref am, .ref ap, .int (nI (n + 4)), .ref ak, .ref al, .ref af, .ref an, .int mm, .ref ar, .int sm])), (ap, .inl (cJ, 2000, .inl (ks_ly ft n xa)))]) hP hD [0, 1] [] rfl rfl (by decide) (by decide) hk1 hFc hP1 hD1
    have hP := hP.sub (ws' := [(h, .inr (2, [.ref ac, .ref au, .ref ab, .ref ae, .ref am, .ref ap, .int (nI (n + 4)), .ref ak, .ref al, .ref af, .ref an, .int mm, .ref ar, .int sm])), (ap, .inl (cJ, 2000, .inl (ks_ly ft n xa)))]) [0, 1] rfl
    have hD := hD.sub (ws' := [(h, .inr (2, [.ref ac, .ref au, .ref ab, .ref ae, .ref am, .ref ap, .int (nI (n + 4)), .ref ak, .ref al, .ref af, .ref an, .int mm, .ref ar, .int sm])), (ap, .inl (cJ, 2000, .inl (ks_ly ft n xa)))]) [0, 1] (by decide) rfl
    generalize H1 = H at hP hS ⊢
    have hP : va_P (dC, dI) vwCl [(h, .inr (2, [.ref ac, .ref au, .ref ab, .ref ae, .ref am, .ref ap, .int (nI (n + 4)), .ref ak, .ref al, .ref af, .ref an, .int mm, .ref ar, .int sm])), (ap, .inl (cJ, 2000, .inl (ks_ly ft n xa)))] H := hP
    have hD : va_D A [(h, .inr (2, [.ref ac, .ref au, .ref ab, .ref ae, .ref am, .ref ap, .int (nI (n + 4)), .ref ak, .ref al, .ref af, .ref an, .int mm, .ref ar, .int sm])), (ap, .inl (cJ, 2000, .inl (ks_ly ft n xa)))] := hD
    refine lv_aload_n hx hb dX2_feed_20 rfl (lv_at hl 0 rfl) ?_
    refine lv_iload_n hx hb dX2_feed_21 rfl (lv_at hl 2 rfl) ?_
    have ho1 : (n + 4) + 4 ≤ 2000 := by omega
    have hPc := hP.sub (ws' := [(h, .inr (2, [.ref ac, .ref au, .ref ab, .ref ae, .ref am, .ref ap, .int (nI (n + 4)), .ref ak, .ref al, .ref af, .ref an, .int mm, .ref ar, .int sm])), (ap, .inl (cJ, 2000, .inl (ks_ly ft n xa)))]) [0, 1] rfl
    have hDc := hD.sub (ws' := [(h, .inr (2, [.ref ac, .ref au, .ref ab, .ref ae, .ref am, .ref ap, .int (nI (n + 4)), .ref ak, .ref al, .ref af, .ref an, .int mm, .ref ar, .int sm])), (ap, .inl (cJ, 2000, .inl (ks_ly ft n xa)))]) [0, 1] (by decide) rfl
    have hKc := hK.sub (tys' := [(cJ, .int)]) [0] rfl
    have hFc := va_free (wc := [(h, .inr (2, [.ref ac, .ref au, .ref ab, .ref ae, .ref am, .ref ap, .int (nI (n + 4)), .ref ak, .ref al, .ref af, .ref an, .int mm, .ref ar, .int sm])), (ap, .inl (cJ, 2000, .inl (ks_ly ft n xa)))]) hD hS hA [0, 1] rfl
    refine va_callv (va_runV (As := [.int xb]) (rest := []) ⟨hx, hb, hml, hown, hts⟩ (r_lay l dC dI H.size h ac au ab ae am ap ak al af an ar cJ (n + 4) mm sm (ks_ly ft n xa) xb ho1) (cwV 1 hts gX2_feed_X2_lay rfl rfl rfl (by decide +kernel) ⟨Nat.le_of_ble_eq_true rfl, Nat.le_of_ble_eq_true rfl⟩) ⟨fun a U g mk q => by obtain ⟨q0, q1, qP, qK, qD⟩ := q; exact ⟨q0, q1, qP, va_K.moved (u := U) (U := U.calling g mk a) (Vm.Alike.refl U.vm) qK, qD⟩, va_recv hKc hPc (ci := 2) (q0 := 0) rfl rfl, fun U hU hW => ⟨rfl, by rw [hU], by rw [hU]; exact hPc, va_K.moved hW.alike hKc, hDc.weaken (fun _ _ _ _ => trivial)⟩⟩ rfl rfl hl.1 rfl (lv_room (Nat.le_of_ble_eq_true rfl)) dX2_feed_22 ⟨Nat.zero_le _, Nat.zero_le _⟩) hS (fun q _ h => hFc q h) hFc (fun u t H1 locs ht hvm hw hB hz1 hk1 hS => ?_)
    obtain ⟨hP1, hK1, hD1⟩ := hB
    rw [ht] at hP1
    have hK1 := va_K.moved hvm.symm hK1
    try dsimp only at hw
    obtain ⟨hP, hD⟩ := va_join (wr := []) (w1 := [(h, .inr (2, [.ref ac, .ref au, .ref ab, .ref ae, .ref am, .ref ap, .int (nI (n + 8)), .ref ak, .ref al, .ref af, .ref an, .int mm, .ref ar, .int sm])), (ap, .inl (cJ, 2000, .inl (ks_ly (ks_ly ft n xa) (n + 4) xb)))]) hP hD [0, 1] [] rfl rfl (by decide) (by decide) hk1 hFc hP1 hD1
    have hP := hP.sub (ws' := [(h, .inr (2, [.ref ac, .ref au, .ref ab, .ref ae, .ref am, .ref ap, .int (nI (n + 8)), .ref ak, .ref al, .ref af, .ref an, .int mm, .ref ar, .int sm])), (ap, .inl (cJ, 2000, .inl (ks_ly (ks_ly ft n xa) (n + 4) xb)))]) [0, 1] rfl
    have hD := hD.sub (ws' := [(h, .inr (2, [.ref ac, .ref au, .ref ab, .ref ae, .ref am, .ref ap, .int (nI (n + 8)), .ref ak, .ref al, .ref af, .ref an, .int mm, .ref ar, .int sm])), (ap, .inl (cJ, 2000, .inl (ks_ly (ks_ly ft n xa) (n + 4) xb)))]) [0, 1] (by decide) rfl
    generalize H1 = H at hP hS ⊢
    have hP : va_P (dC, dI) vwCl [(h, .inr (2, [.ref ac, .ref au, .ref ab, .ref ae, .ref am, .ref ap, .int (nI (n + 8)), .ref ak, .ref al, .ref af, .ref an, .int mm, .ref ar, .int sm])), (ap, .inl (cJ, 2000, .inl (ks_ly (ks_ly ft n xa) (n + 4) xb)))] H := hP
    have hD : va_D A [(h, .inr (2, [.ref ac, .ref au, .ref ab, .ref ae, .ref am, .ref ap, .int (nI (n + 8)), .ref ak, .ref al, .ref af, .ref an, .int mm, .ref ar, .int sm])), (ap, .inl (cJ, 2000, .inl (ks_ly (ks_ly ft n xa) (n + 4) xb)))] := hD
    refine lv_aload_n hx hb dX2_feed_25 rfl (lv_at hl 0 rfl) ?_
    refine lv_iload_n hx hb dX2_feed_26 rfl (lv_at hl 3 rfl) ?_
    have ho2 : (n + 8) + 4 ≤ 2000 := by omega
    have hPc := hP.sub (ws' := [(h, .inr (2, [.ref ac, .ref au, .ref ab, .ref ae, .ref am, .ref ap, .int (nI (n + 8)), .ref ak, .ref al, .ref af, .ref an, .int mm, .ref ar, .int sm])), (ap, .inl (cJ, 2000, .inl (ks_ly (ks_ly ft n xa) (n + 4) xb)))]) [0, 1] rfl
    have hDc := hD.sub (ws' := [(h, .inr (2, [.ref ac, .ref au, .ref ab, .ref ae, .ref am, .ref ap, .int (nI (n + 8)), .ref ak, .ref al, .ref af, .ref an, .int mm, .ref ar, .int sm])), (ap, .inl (cJ, 2000, .inl (ks_ly (ks_ly ft n xa) (n + 4) xb)))]) [0, 1] (by decide) rfl
    have hKc := hK.sub (tys' := [(cJ, .int)]) [0] rfl
    have hFc := va_free (wc := [(h, .inr (2, [.ref ac, .ref au, .ref ab, .ref ae, .ref am, .ref ap, .int (nI (n + 8)), .ref ak, .ref al, .ref af, .ref an, .int mm, .ref ar, .int sm])), (ap, .inl (cJ, 2000, .inl (ks_ly (ks_ly ft n xa) (n + 4) xb)))]) hD hS hA [0, 1] rfl
    refine va_callv (va_runV (As := [.int xc]) (rest := []) ⟨hx, hb, hml, hown, hts⟩ (r_lay l dC dI H.size h ac au ab ae am ap ak al af an ar cJ (n + 8) mm sm (ks_ly (ks_ly ft n xa) (n + 4) xb) xc ho2) (cwV 1 hts gX2_feed_X2_lay rfl rfl rfl (by decide +kernel) ⟨Nat.le_of_ble_eq_true rfl, Nat.le_of_ble_eq_true rfl⟩) ⟨fun a U g mk q => by obtain ⟨q0, q1, qP, qK, qD⟩ := q; exact ⟨q0, q1, qP, va_K.moved (u := U) (U := U.calling g mk a) (Vm.Alike.refl U.vm) qK, qD⟩, va_recv hKc hPc (ci := 2) (q0 := 0) rfl rfl, fun U hU hW => ⟨rfl, by rw [hU], by rw [hU]; exact hPc, va_K.moved hW.alike hKc, hDc.weaken (fun _ _ _ _ => trivial)⟩⟩ rfl rfl hl.1 rfl (lv_room (Nat.le_of_ble_eq_true rfl)) dX2_feed_27 ⟨Nat.zero_le _, Nat.zero_le _⟩) hS (fun q _ h => hFc q h) hFc (fun u t H1 locs ht hvm hw hB hz1 hk1 hS => ?_)
    obtain ⟨hP1, hK1, hD1⟩ := hB
    rw [ht] at hP1
    have hK1 := va_K.moved hvm.symm hK1
    try dsimp only at hw
    obtain ⟨hP, hD⟩ := va_join (wr := []) (w1 := [(h, .inr (2, [.ref ac, .ref au, .ref ab, .ref ae, .ref am, .ref ap, .int (nI (n + 12)), .ref ak, .ref al, .ref af, .ref an, .int mm, .ref ar, .int sm])), (ap, .inl (cJ, 2000, .inl (ks_ly (ks_ly (ks_ly ft n xa) (n + 4) xb) (n + 8) xc)))]) hP hD [0, 1] [] rfl rfl (by decide) (by decide) hk1 hFc hP1 hD1
    have hP := hP.sub (ws' := [(h, .inr (2, [.ref ac, .ref au, .ref ab, .ref ae, .ref am, .ref ap, .int (nI (n + 12)), .ref ak, .ref al, .ref af, .ref an, .int mm, .ref ar, .int sm])), (ap, .inl (cJ, 2000, .inl (ks_ly (ks_ly (ks_ly ft n xa) (n + 4) xb) (n + 8) xc)))]) [0, 1] rfl
    have hD := hD.sub (ws' := [(h, .inr (2, [.ref ac, .ref au, .ref ab, .ref ae, .ref am, .ref ap, .int (nI (n + 12)), .ref ak, .ref al, .ref af, .ref an, .int mm, .ref ar, .int sm])), (ap, .inl (cJ, 2000, .inl (ks_ly (ks_ly (ks_ly ft n xa) (n + 4) xb) (n + 8) xc)))]) [0, 1] (by decide) rfl
    generalize H1 = H at hP hS ⊢
    have hP : va_P (dC, dI) vwCl [(h, .inr (2, [.ref ac, .ref au, .ref ab, .ref ae, .ref am, .ref ap, .int (nI (n + 12)), .ref ak, .ref al, .ref af, .ref an, .int mm, .ref ar, .int sm])), (ap, .inl (cJ, 2000, .inl (ks_ly (ks_ly (ks_ly ft n xa) (n + 4) xb) (n + 8) xc)))] H := hP
    have hD : va_D A [(h, .inr (2, [.ref ac, .ref au, .ref ab, .ref ae, .ref am, .ref ap, .int (nI (n + 12)), .ref ak, .ref al, .ref af, .ref an, .int mm, .ref ar, .int sm])), (ap, .inl (cJ, 2000, .inl (ks_ly (ks_ly (ks_ly ft n xa) (n + 4) xb) (n + 8) xc)))] := hD
    refine lv_aload_n hx hb dX2_feed_30 rfl (lv_at hl 0 rfl) ?_
    refine lv_iload hx hb dX2_feed_31 (lv_at hl 4 rfl) ?_
    have ho3 : (n + 12) + 4 ≤ 2000 := by omega
    have hPc := hP.sub (ws' := [(h, .inr (2, [.ref ac, .ref au, .ref ab, .ref ae, .ref am, .ref ap, .int (nI (n + 12)), .ref ak, .ref al, .ref af, .ref an, .int mm, .ref ar, .int sm])), (ap, .inl (cJ, 2000, .inl (ks_ly (ks_ly (ks_ly ft n xa) (n + 4) xb) (n + 8) xc)))]) [0, 1] rfl
    have hDc := hD.sub (ws' := [(h, .inr (2, [.ref ac, .ref au, .ref ab, .ref ae, .ref am, .ref ap, .int (nI (n + 12)), .ref ak, .ref al, .ref af, .ref an, .int mm, .ref ar, .int sm])), (ap, .inl (cJ, 2000, .inl (ks_ly (ks_ly (ks_ly ft n xa) (n + 4) xb) (n + 8) xc)))]) [0, 1] (by decide) rfl
    have hKc := hK.sub (tys' := [(cJ, .int)]) [0] rfl
    have hFc := va_free (wc := [(h, .inr (2, [.ref ac, .ref au, .ref ab, .ref ae, .ref am, .ref ap, .int (nI (n + 12)), .ref ak, .ref al, .ref af, .ref an, .int mm, .ref ar, .int sm])), (ap, .inl (cJ, 2000, .inl (ks_ly (ks_ly (ks_ly ft n xa) (n + 4) xb) (n + 8) xc)))]) hD hS hA [0, 1] rfl
    refine va_callv (va_runV (As := [.int xd]) (rest := []) ⟨hx, hb, hml, hown, hts⟩ (r_lay l dC dI H.size h ac au ab ae am ap ak al af an ar cJ (n + 12) mm sm (ks_ly (ks_ly (ks_ly ft n xa) (n + 4) xb) (n + 8) xc) xd ho3) (cwV 1 hts gX2_feed_X2_lay rfl rfl rfl (by decide +kernel) ⟨Nat.le_of_ble_eq_true rfl, Nat.le_of_ble_eq_true rfl⟩) ⟨fun a U g mk q => by obtain ⟨q0, q1, qP, qK, qD⟩ := q; exact ⟨q0, q1, qP, va_K.moved (u := U) (U := U.calling g mk a) (Vm.Alike.refl U.vm) qK, qD⟩, va_recv hKc hPc (ci := 2) (q0 := 0) rfl rfl, fun U hU hW => ⟨rfl, by rw [hU], by rw [hU]; exact hPc, va_K.moved hW.alike hKc, hDc.weaken (fun _ _ _ _ => trivial)⟩⟩ rfl rfl hl.1 rfl (lv_room (Nat.le_of_ble_eq_true rfl)) dX2_feed_33 ⟨Nat.zero_le _, Nat.zero_le _⟩) hS (fun q _ h => hFc q h) hFc (fun u t H1 locs ht hvm hw hB hz1 hk1 hS => ?_)
    obtain ⟨hP1, hK1, hD1⟩ := hB
    rw [ht] at hP1
    have hK1 := va_K.moved hvm.symm hK1
    try dsimp only at hw
    obtain ⟨hP, hD⟩ := va_join (wr := []) (w1 := [(h, .inr (2, [.ref ac, .ref au, .ref ab, .ref ae, .ref am, .ref ap, .int (nI (n + 16)), .ref ak, .ref al, .ref af, .ref an, .int mm, .ref ar, .int sm])), (ap, .inl (cJ, 2000, .inl (ks_ly (ks_ly (ks_ly (ks_ly ft n xa) (n + 4) xb) (n + 8) xc) (n + 12) xd)))]) hP hD [0, 1] [] rfl rfl (by decide) (by decide) hk1 hFc hP1 hD1
    have hP := hP.sub (ws' := [(h, .inr (2, [.ref ac, .ref au, .ref ab, .ref ae, .ref am, .ref ap, .int (nI (n + 16)), .ref ak, .ref al, .ref af, .ref an, .int mm, .ref ar, .int sm])), (ap, .inl (cJ, 2000, .inl (ks_ly (ks_ly (ks_ly (ks_ly ft n xa) (n + 4) xb) (n + 8) xc) (n + 12) xd)))]) [0, 1] rfl
    have hD := hD.sub (ws' := [(h, .inr (2, [.ref ac, .ref au, .ref ab, .ref ae, .ref am, .ref ap, .int (nI (n + 16)), .ref ak, .ref al, .ref af, .ref an, .int mm, .ref ar, .int sm])), (ap, .inl (cJ, 2000, .inl (ks_ly (ks_ly (ks_ly (ks_ly ft n xa) (n + 4) xb) (n + 8) xc) (n + 12) xd)))]) [0, 1] (by decide) rfl
    generalize H1 = H at hP hS ⊢
    have hP : va_P (dC, dI) vwCl [(h, .inr (2, [.ref ac, .ref au, .ref ab, .ref ae, .ref am, .ref ap, .int (nI (n + 16)), .ref ak, .ref al, .ref af, .ref an, .int mm, .ref ar, .int sm])), (ap, .inl (cJ, 2000, .inl (ks_ly (ks_ly (ks_ly (ks_ly ft n xa) (n + 4) xb) (n + 8) xc) (n + 12) xd)))] H := hP
    have hD : va_D A [(h, .inr (2, [.ref ac, .ref au, .ref ab, .ref ae, .ref am, .ref ap, .int (nI (n + 16)), .ref ak, .ref al, .ref af, .ref an, .int mm, .ref ar, .int sm])), (ap, .inl (cJ, 2000, .inl (ks_ly (ks_ly (ks_ly (ks_ly ft n xa) (n + 4) xb) (n + 8) xc) (n + 12) xd)))] := hD
    refine lv_aload_n hx hb dX2_feed_36 rfl (lv_at hl 0 rfl) ?_
    refine lv_iload hx hb dX2_feed_37 (lv_at hl 5 rfl) ?_
    have ho4 : (n + 16) + 4 ≤ 2000 := by omega
    have hPc := hP.sub (ws' := [(h, .inr (2, [.ref ac, .ref au, .ref ab, .ref ae, .ref am, .ref ap, .int (nI (n + 16)), .ref ak, .ref al, .ref af, .ref an, .int mm, .ref ar, .int sm])), (ap, .inl (cJ, 2000, .inl (ks_ly (ks_ly (ks_ly (ks_ly ft n xa) (n + 4) xb) (n + 8) xc) (n + 12) xd)))]) [0, 1] rfl
    have hDc := hD.sub (ws' := [(h, .inr (2, [.ref ac, .ref au, .ref ab, .ref ae, .ref am, .ref ap, .int (nI (n + 16)), .ref ak, .ref al, .ref af, .ref an, .int mm, .ref ar, .int sm])), (ap, .inl (cJ, 2000, .inl (ks_ly (ks_ly (ks_ly (ks_ly ft n xa) (n + 4) xb) (n + 8) xc) (n + 12) xd)))]) [0, 1] (by decide) rfl
    have hKc := hK.sub (tys' := [(cJ, .int)]) [0] rfl
    have hFc := va_free (wc := [(h, .inr (2, [.ref ac, .ref au, .ref ab, .ref ae, .ref am, .ref ap, .int (nI (n + 16)), .ref ak, .ref al, .ref af, .ref an, .int mm, .ref ar, .int sm])), (ap, .inl (cJ, 2000, .inl (ks_ly (ks_ly (ks_ly (ks_ly ft n xa) (n + 4) xb) (n + 8) xc) (n + 12) xd)))]) hD hS hA [0, 1] rfl
    refine va_callv (va_runV (As := [.int xe]) (rest := []) ⟨hx, hb, hml, hown, hts⟩ (r_lay l dC dI H.size h ac au ab ae am ap ak al af an ar cJ (n + 16) mm sm (ks_ly (ks_ly (ks_ly (ks_ly ft n xa) (n + 4) xb) (n + 8) xc) (n + 12) xd) xe ho4) (cwV 1 hts gX2_feed_X2_lay rfl rfl rfl (by decide +kernel) ⟨Nat.le_of_ble_eq_true rfl, Nat.le_of_ble_eq_true rfl⟩) ⟨fun a U g mk q => by obtain ⟨q0, q1, qP, qK, qD⟩ := q; exact ⟨q0, q1, qP, va_K.moved (u := U) (U := U.calling g mk a) (Vm.Alike.refl U.vm) qK, qD⟩, va_recv hKc hPc (ci := 2) (q0 := 0) rfl rfl, fun U hU hW => ⟨rfl, by rw [hU], by rw [hU]; exact hPc, va_K.moved hW.alike hKc, hDc.weaken (fun _ _ _ _ => trivial)⟩⟩ rfl rfl hl.1 rfl (lv_room (Nat.le_of_ble_eq_true rfl)) dX2_feed_39 ⟨Nat.zero_le _, Nat.zero_le _⟩) hS (fun q _ h => hFc q h) hFc (fun u t H1 locs ht hvm hw hB hz1 hk1 hS => ?_)
    obtain ⟨hP1, hK1, hD1⟩ := hB
    rw [ht] at hP1
    have hK1 := va_K.moved hvm.symm hK1
    try dsimp only at hw
    obtain ⟨hP, hD⟩ := va_join (wr := []) (w1 := [(h, .inr (2, [.ref ac, .ref au, .ref ab, .ref ae, .ref am, .ref ap, .int (nI (n + 20)), .ref ak, .ref al, .ref af, .ref an, .int mm, .ref ar, .int sm])), (ap, .inl (cJ, 2000, .inl (ks_ly (ks_ly (ks_ly (ks_ly (ks_ly ft n xa) (n + 4) xb) (n + 8) xc) (n + 12) xd) (n + 16) xe)))]) hP hD [0, 1] [] rfl rfl (by decide) (by decide) hk1 hFc hP1 hD1
    have hP := hP.sub (ws' := [(h, .inr (2, [.ref ac, .ref au, .ref ab, .ref ae, .ref am, .ref ap, .int (nI (n + 20)), .ref ak, .ref al, .ref af, .ref an, .int mm, .ref ar, .int sm])), (ap, .inl (cJ, 2000, .inl (ks_ly (ks_ly (ks_ly (ks_ly (ks_ly ft n xa) (n + 4) xb) (n + 8) xc) (n + 12) xd) (n + 16) xe)))]) [0, 1] rfl
    have hD := hD.sub (ws' := [(h, .inr (2, [.ref ac, .ref au, .ref ab, .ref ae, .ref am, .ref ap, .int (nI (n + 20)), .ref ak, .ref al, .ref af, .ref an, .int mm, .ref ar, .int sm])), (ap, .inl (cJ, 2000, .inl (ks_ly (ks_ly (ks_ly (ks_ly (ks_ly ft n xa) (n + 4) xb) (n + 8) xc) (n + 12) xd) (n + 16) xe)))]) [0, 1] (by decide) rfl
    generalize H1 = H at hP hS ⊢
    have hP : va_P (dC, dI) vwCl [(h, .inr (2, [.ref ac, .ref au, .ref ab, .ref ae, .ref am, .ref ap, .int (nI (n + 20)), .ref ak, .ref al, .ref af, .ref an, .int mm, .ref ar, .int sm])), (ap, .inl (cJ, 2000, .inl (ks_ly (ks_ly (ks_ly (ks_ly (ks_ly ft n xa) (n + 4) xb) (n + 8) xc) (n + 12) xd) (n + 16) xe)))] H := hP
    have hD : va_D A [(h, .inr (2, [.ref ac, .ref au, .ref ab, .ref ae, .ref am, .ref ap, .int (nI (n + 20)), .ref ak, .ref al, .ref af, .ref an, .int mm, .ref ar, .int sm])), (ap, .inl (cJ, 2000, .inl (ks_ly (ks_ly (ks_ly (ks_ly (ks_ly ft n xa) (n + 4) xb) (n + 8) xc) (n + 12) xd) (n + 16) xe)))] := hD
    refine lv_iconst (v := 1) hx hb dX2_feed_42 (by decide) ?_
    have hP9 := hP.sub (ws' := [(h, .inr (2, [.ref ac, .ref au, .ref ab, .ref ae, .ref am, .ref ap, .int (nI (n + 20)), .ref ak, .ref al, .ref af, .ref an, .int mm, .ref ar, .int sm])), (ap, .inl (cJ, 2000, .inl (ks_ly (ks_ly (ks_ly (ks_ly (ks_ly ft n xa) (n + 4) xb) (n + 8) xc) (n + 12) xd) (n + 16) xe)))]) [0, 1] rfl
    have hD9 := hD.sub (ws' := [(h, .inr (2, [.ref ac, .ref au, .ref ab, .ref ae, .ref am, .ref ap, .int (nI (n + 20)), .ref ak, .ref al, .ref af, .ref an, .int mm, .ref ar, .int sm])), (ap, .inl (cJ, 2000, .inl (ks_ly (ks_ly (ks_ly (ks_ly (ks_ly ft n xa) (n + 4) xb) (n + 8) xc) (n + 12) xd) (n + 16) xe)))]) [0, 1] (by decide) rfl
    have hK9 := hK.sub (tys' := [(cJ, .int)]) [0] rfl
    exact W.zret (v := 1) (ty := .boolean) hx hb hr (by rfl) (fun t ht hW => ⟨⟨1, (), rfl, rfl, by rw [ht]; exact hP9, va_K.moved hW.alike hK9, hD9⟩, hS.F ht⟩) hS.2.2 dX2_feed_43
  · skip
    exact absurd (nI_le (a := n + 20) (b := 2000) (by omega) (by decide)) hc

set_option maxHeartbeats 4000000 in
set_option maxRecDepth 100000 in
/-- end, refused -/
theorem r_end_no (l : Launch) (dC : Nat → ClassId) (dI : Nat → Nat → Nat) (sz : Nat) (h ac au ab ae am ap ak al af an ar : Nat) (cJ : ClassId) (n : Nat) (mm sm : Int32) (x : Int32) (h1 : x < 0 ∨ nI n < x) : Met l yX2_end wsX2_end ({ frames := 0, cells := 0, slots := 0, locals := 0 }) (va_Pc [.ref h, .int x] (fun U => U.heap.size = sz ∧ va_P (dC, dI) vwCl [(h, .inr (2, [.ref ac, .ref au, .ref ab, .ref ae, .ref am, .ref ap, .int (nI n), .ref ak, .ref al, .ref af, .ref an, .int mm, .ref ar, .int sm]))] U.heap ∧ va_K (dC, dI) vwCl [] U ∧ va_D (fun _ => True) [(h, .inr (2, [.ref ac, .ref au, .ref ab, .ref ae, .ref am, .ref ap, .int (nI n), .ref ak, .ref al, .ref af, .ref an, .int mm, .ref ar, .int sm]))])) (va_Qi (fun (r : Int32) (_u : Unit) => r = 0) (fun (_u : Unit) t => kz_B dC dI [] (va_A [(h, .inr (2, [.ref ac, .ref au, .ref ab, .ref ae, .ref am, .ref ap, .int (nI n), .ref ak, .ref al, .ref af, .ref an, .int mm, .ref ar, .int sm]))] sz) [(h, .inr (2, [.ref ac, .ref au, .ref ab, .ref ae, .ref am, .ref ap, .int (nI n), .ref ak, .ref al, .ref af, .ref an, .int mm, .ref ar, .int sm]))] t) (va_A [(h, .inr (2, [.ref ac, .ref au, .ref ab, .ref ae, .ref am, .ref ap, .int (nI n), .ref ak, .ref al, .ref af, .ref an, .int mm, .ref ar, .int sm]))] sz)) 0 0 (va_A [(h, .inr (2, [.ref ac, .ref au, .ref ab, .ref ae, .ref am, .ref ap, .int (nI n), .ref ak, .ref al, .ref af, .ref an, .int mm, .ref ar, .int sm]))] sz) := by
  refine Met.ofW (cc := cX2_end) (maxL := 2) (ret := (some .boolean)) (by decide) rfl ?_
  intro p e s m args below meth c s₁ B hml hv
  obtain ⟨rfl, hsz, hP, hK, hD0⟩ := hv
  have hx := B.exec
  have hb := B.bytes
  have hr := B.returns
  have hts := atoms_spec (ws := wsX2_end) B.pre
  have hown : s.vm.findClass RX2 = some m.cls := findClass_of_methodNamed B.named
  have hlocks := B.notSynchronized
  subst hsz
  have hD := hD0.self (sz := s.heap.size)
  generalize hAe : va_A [(h, .inr (2, [.ref ac, .ref au, .ref ab, .ref ae, .ref am, .ref ap, .int (nI n), .ref ak, .ref al, .ref af, .ref an, .int mm, .ref ar, .int sm]))] s.heap.size = A at hD  ⊢
  have hA : ∀ q : Nat, s.heap.size ≤ q → A q := fun q h => by rw [← hAe]; exact Or.inr h
  have hS : va_S A s.heap s.heap [] := va_S.rf
  have hP : va_P (dC, dI) vwCl [(h, .inr (2, [.ref ac, .ref au, .ref ab, .ref ae, .ref am, .ref ap, .int (nI n), .ref ak, .ref al, .ref af, .ref an, .int mm, .ref ar, .int sm]))] s.heap := hP
  have hl := lv_entry ([.ref h, .int x]) (n := 2) (Nat.le_of_ble_eq_true rfl)
  rw [lg_entry_eq]
  generalize (lg_sl ([.ref h, .int x]) ++ List.replicate (2 - (lg_sl ([.ref h, .int x])).length) Slot.unset).toArray = ls at hl ⊢
  have hl : lv_has ls 2 [(0, .ref h), (1, .int x)] := hl
  refine lv_iload_n hx hb dX2_end_0 rfl (lv_at hl 1 rfl) ?_
  refine lv_if_lt (tgt := 12) hx hb dX2_end_1 (by decide) (fun hc => ?_) (fun hc => ?_)
  · skip
    refine lv_iconst (v := 0) hx hb dX2_end_12 (by decide) ?_
    have hP9 := hP.sub (ws' := [(h, .inr (2, [.ref ac, .ref au, .ref ab, .ref ae, .ref am, .ref ap, .int (nI n), .ref ak, .ref al, .ref af, .ref an, .int mm, .ref ar, .int sm]))]) [0] rfl
    have hD9 := hD.sub (ws' := [(h, .inr (2, [.ref ac, .ref au, .ref ab, .ref ae, .ref am, .ref ap, .int (nI n), .ref ak, .ref al, .ref af, .ref an, .int mm, .ref ar, .int sm]))]) [0] (by decide) rfl
    have hK9 := hK.sub (tys' := []) [] rfl
    exact W.zret (v := 0) (ty := .boolean) hx hb hr (by rfl) (fun t ht hW => ⟨⟨0, (), rfl, rfl, by rw [ht]; exact hP9, va_K.moved hW.alike hK9, hD9⟩, hS.F ht⟩) hS.2.2 dX2_end_13
  · skip
    refine lv_iload_n hx hb dX2_end_4 rfl (lv_at hl 1 rfl) ?_
    refine lv_aload_n hx hb dX2_end_5 rfl (lv_at hl 0 rfl) ?_
    refine va_get (D := (dC, dI)) (ci := 2) (v := .int (nI n)) (C := RX2) (T := TX2) (N := 14) hx hb hts (by decide +kernel) hown hK hP 0 rfl rfl 6 (by decide) (hts (.fieldLink RX2 118 "KeySumsModel" "size" "I") (by decide +kernel)) (fun _ h9 => h9) rfl dX2_end_6 ?_
    refine lv_icmp_le (tgt := 14) hx hb dX2_end_9 (by decide) (fun hc => ?_) (fun hc => ?_)
    · skip
      exact absurd hc (h1.elim (fun q => absurd q (by assumption)) (fun q => Int32.not_le.mpr q))
    · skip
      refine lv_iconst (v := 0) hx hb dX2_end_12 (by decide) ?_
      have hP9 := hP.sub (ws' := [(h, .inr (2, [.ref ac, .ref au, .ref ab, .ref ae, .ref am, .ref ap, .int (nI n), .ref ak, .ref al, .ref af, .ref an, .int mm, .ref ar, .int sm]))]) [0] rfl
      have hD9 := hD.sub (ws' := [(h, .inr (2, [.ref ac, .ref au, .ref ab, .ref ae, .ref am, .ref ap, .int (nI n), .ref ak, .ref al, .ref af, .ref an, .int mm, .ref ar, .int sm]))]) [0] (by decide) rfl
      have hK9 := hK.sub (tys' := []) [] rfl
      exact W.zret (v := 0) (ty := .boolean) hx hb hr (by rfl) (fun t ht hW => ⟨⟨0, (), rfl, rfl, by rw [ht]; exact hP9, va_K.moved hW.alike hK9, hD9⟩, hS.F ht⟩) hS.2.2 dX2_end_13

set_option maxHeartbeats 4000000 in
set_option maxRecDepth 100000 in
/-- end -/
theorem r_end_ok (l : Launch) (dC : Nat → ClassId) (dI : Nat → Nat → Nat) (sz : Nat) (h ac au ab ae am ap ak al af an ar : Nat) (cJ : ClassId) (n : Nat) (mm sm : Int32) (k : Nat) (h1 : k ≤ n) (h2 : n ≤ 2000) : Met l yX2_end wsX2_end ({ frames := 0, cells := 0, slots := 0, locals := 0 }) (va_Pc [.ref h, .int (nI k)] (fun U => U.heap.size = sz ∧ va_P (dC, dI) vwCl [(h, .inr (2, [.ref ac, .ref au, .ref ab, .ref ae, .ref am, .ref ap, .int (nI n), .ref ak, .ref al, .ref af, .ref an, .int mm, .ref ar, .int sm]))] U.heap ∧ va_K (dC, dI) vwCl [] U ∧ va_D (fun _ => True) [(h, .inr (2, [.ref ac, .ref au, .ref ab, .ref ae, .ref am, .ref ap, .int (nI n), .ref ak, .ref al, .ref af, .ref an, .int mm, .ref ar, .int sm]))])) (va_Qi (fun (r : Int32) (_u : Unit) => r = 1) (fun (_u : Unit) t => kz_B dC dI [] (va_A [(h, .inr (2, [.ref ac, .ref au, .ref ab, .ref ae, .ref am, .ref ap, .int (nI n), .ref ak, .ref al, .ref af, .ref an, .int mm, .ref ar, .int sm]))] sz) [(h, .inr (2, [.ref ac, .ref au, .ref ab, .ref ae, .ref am, .ref ap, .int (nI k), .ref ak, .ref al, .ref af, .ref an, .int mm, .ref ar, .int sm]))] t) (va_A [(h, .inr (2, [.ref ac, .ref au, .ref ab, .ref ae, .ref am, .ref ap, .int (nI n), .ref ak, .ref al, .ref af, .ref an, .int mm, .ref ar, .int sm]))] sz)) 0 0 (va_A [(h, .inr (2, [.ref ac, .ref au, .ref ab, .ref ae, .ref am, .ref ap, .int (nI n), .ref ak, .ref al, .ref af, .ref an, .int mm, .ref ar, .int sm]))] sz) := by
  refine Met.ofW (cc := cX2_end) (maxL := 2) (ret := (some .boolean)) (by decide) rfl ?_
  intro p e s m args below meth c s₁ B hml hv
  obtain ⟨rfl, hsz, hP, hK, hD0⟩ := hv
  have hx := B.exec
  have hb := B.bytes
  have hr := B.returns
  have hts := atoms_spec (ws := wsX2_end) B.pre
  have hown : s.vm.findClass RX2 = some m.cls := findClass_of_methodNamed B.named
  have hlocks := B.notSynchronized
  subst hsz
  have hD := hD0.self (sz := s.heap.size)
  generalize hAe : va_A [(h, .inr (2, [.ref ac, .ref au, .ref ab, .ref ae, .ref am, .ref ap, .int (nI n), .ref ak, .ref al, .ref af, .ref an, .int mm, .ref ar, .int sm]))] s.heap.size = A at hD  ⊢
  have hA : ∀ q : Nat, s.heap.size ≤ q → A q := fun q h => by rw [← hAe]; exact Or.inr h
  have hS : va_S A s.heap s.heap [] := va_S.rf
  have hP : va_P (dC, dI) vwCl [(h, .inr (2, [.ref ac, .ref au, .ref ab, .ref ae, .ref am, .ref ap, .int (nI n), .ref ak, .ref al, .ref af, .ref an, .int mm, .ref ar, .int sm]))] s.heap := hP
  have hl := lv_entry ([.ref h, .int (nI k)]) (n := 2) (Nat.le_of_ble_eq_true rfl)
  rw [lg_entry_eq]
  generalize (lg_sl ([.ref h, .int (nI k)]) ++ List.replicate (2 - (lg_sl ([.ref h, .int (nI k)])).length) Slot.unset).toArray = ls at hl ⊢
  have hl : lv_has ls 2 [(0, .ref h), (1, .int (nI k))] := hl
  refine lv_iload_n hx hb dX2_end_0 rfl (lv_at hl 1 rfl) ?_
  refine lv_if_lt (tgt := 12) hx hb dX2_end_1 (by decide) (fun hc => ?_) (fun hc => ?_)
  · skip
    exact absurd hc (nI_pos (n := k) (by omega))
  · skip
    refine lv_iload_n hx hb dX2_end_4 rfl (lv_at hl 1 rfl) ?_
    refine lv_aload_n hx hb dX2_end_5 rfl (lv_at hl 0 rfl) ?_
    refine va_get (D := (dC, dI)) (ci := 2) (v := .int (nI n)) (C := RX2) (T := TX2) (N := 14) hx hb hts (by decide +kernel) hown hK hP 0 rfl rfl 6 (by decide) (hts (.fieldLink RX2 118 "KeySumsModel" "size" "I") (by decide +kernel)) (fun _ h9 => h9) rfl dX2_end_6 ?_
    refine lv_icmp_le (tgt := 14) hx hb dX2_end_9 (by decide) (fun hc => ?_) (fun hc => ?_)
    · skip
      refine lv_aload_n hx hb dX2_end_14 rfl (lv_at hl 0 rfl) ?_
      refine lv_iload_n hx hb dX2_end_15 rfl (lv_at hl 1 rfl) ?_
      refine va_put (D := (dC, dI)) (ci := 2) (v := .int (nI k)) (ty := .int) (C := RX2) (T := TX2) (N := 14) hx hb hts (by decide +kernel) tyX2 tyX2_ok nmX2 hown hK hP hD hS 0 rfl rfl 6 (by decide) (hts (.fieldLink RX2 118 "KeySumsModel" "size" "I") (by decide +kernel)) (fun _ h9 => h9) rfl (by decide +kernel) rfl rfl (Nat.le_of_ble_eq_true rfl) dX2_end_16 (fun H locs hP hD hS => ?_)
      have hP : va_P (dC, dI) vwCl [(h, .inr (2, [.ref ac, .ref au, .ref ab, .ref ae, .ref am, .ref ap, .int (nI k), .ref ak, .ref al, .ref af, .ref an, .int mm, .ref ar, .int sm]))] H := hP
      have hD : va_D A [(h, .inr (2, [.ref ac, .ref au, .ref ab, .ref ae, .ref am, .ref ap, .int (nI k), .ref ak, .ref al, .ref af, .ref an, .int mm, .ref ar, .int sm]))] := hD
      refine lv_iconst (v := 1) hx hb dX2_end_19 (by decide) ?_
      have hP9 := hP.sub (ws' := [(h, .inr (2, [.ref ac, .ref au, .ref ab, .ref ae, .ref am, .ref ap, .int (nI k), .ref ak, .ref al, .ref af, .ref an, .int mm, .ref ar, .int sm]))]) [0] rfl
      have hD9 := hD.sub (ws' := [(h, .inr (2, [.ref ac, .ref au, .ref ab, .ref ae, .ref am, .ref ap, .int (nI k), .ref ak, .ref al, .ref af, .ref an, .int mm, .ref ar, .int sm]))]) [0] (by decide) rfl
      have hK9 := hK.sub (tys' := []) [] rfl
      exact W.zret (v := 1) (ty := .boolean) hx hb hr (by rfl) (fun t ht hW => ⟨⟨1, (), rfl, rfl, by rw [ht]; exact hP9, va_K.moved hW.alike hK9, hD9⟩, hS.F ht⟩) hS.2.2 dX2_end_20
    · skip
      exact absurd (nI_le h1 (by omega)) hc
