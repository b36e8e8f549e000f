set_option maxHeartbeats 4000000 in
set_option maxRecDepth 100000 in
/-- restart -/
theorem c_restart (l : Launch) (dC : Nat → ClassId) (dI : Nat → Nat → Nat) (sz : Nat) (h w : Nat) (nn : Int32) (v : ks_Q) : Met l yX0_restart wsX0_restart ({ frames := 0, cells := 0, slots := 0, locals := 0 }) (va_Pc [.ref h] (fun U => U.heap.size = sz ∧ va_P (dC, dI) vwCl [(h, .inr (0, [.ref w, .int nn, .int v.1, .int v.2.1, .int v.2.2.1, .int v.2.2.2]))] U.heap ∧ va_K (dC, dI) vwCl [] U ∧ va_D (fun _ => True) [(h, .inr (0, [.ref w, .int nn, .int v.1, .int v.2.1, .int v.2.2.1, .int v.2.2.2]))])) (va_Qv (fun _u : Unit => True) (fun (_u : Unit) t => kz_B dC dI [] (va_A [(h, .inr (0, [.ref w, .int nn, .int v.1, .int v.2.1, .int v.2.2.1, .int v.2.2.2]))] sz) [(h, .inr (0, [.ref w, .int (nI 0), .int 1732584193, .int (-271733879), .int (-1732584194), .int 271733878]))] t) (va_A [(h, .inr (0, [.ref w, .int nn, .int v.1, .int v.2.1, .int v.2.2.1, .int v.2.2.2]))] sz)) 0 0 (va_A [(h, .inr (0, [.ref w, .int nn, .int v.1, .int v.2.1, .int v.2.2.1, .int v.2.2.2]))] sz) := by
  refine Met.ofW (cc := cX0_restart) (maxL := 1) (ret := none) (by decide) rfl ?_
  intro p e s m args below meth c s₁ B hml hv
  obtain ⟨rfl, hsz, hP, hK, hD0⟩ := hv
  have hx := B.exec
  have hb := B.bytes
  have hr := B.returns
  have hts := atoms_spec (ws := wsX0_restart) B.pre
  have hown : s.vm.findClass RX0 = some m.cls := findClass_of_methodNamed B.named
  have hlocks := B.notSynchronized
  subst hsz
  have hD := hD0.self (sz := s.heap.size)
  generalize hAe : va_A [(h, .inr (0, [.ref w, .int nn, .int v.1, .int v.2.1, .int v.2.2.1, .int v.2.2.2]))] s.heap.size = A at hD  ⊢
  have hA : ∀ q : Nat, s.heap.size ≤ q → A q := fun q h => by rw [← hAe]; exact Or.inr h
  have hS : va_S A s.heap s.heap [] := va_S.rf
  have hP : va_P (dC, dI) vwCl [(h, .inr (0, [.ref w, .int nn, .int v.1, .int v.2.1, .int v.2.2.1, .int v.2.2.2]))] s.heap := hP
  have hl := lv_entry ([.ref h]) (n := 1) (Nat.le_of_ble_eq_true rfl)
  rw [lg_entry_eq]
  generalize (lg_sl ([.ref h]) ++ List.replicate (1 - (lg_sl ([.ref h])).length) Slot.unset).toArray = ls at hl ⊢
  have hl : lv_has ls 1 [(0, .ref h)] := hl
  refine lv_aload_n hx hb dX0_restart_0 rfl (lv_at hl 0 rfl) ?_
  refine lv_iconst (v := 0) hx hb dX0_restart_1 (by decide) ?_
  refine kz_top (y := nI 0) nI_0.symm ?_
  refine va_put (D := (dC, dI)) (ci := 0) (v := .int (nI 0)) (ty := .int) (C := RX0) (T := TX0) (N := 6) hx hb hts (by decide +kernel) tyX0 tyX0_ok nmX0 hown hK hP hD hS 0 rfl rfl 1 (by decide) (hts (.fieldLink RX0 16 "KeySums$Summer" "count" "I") (by decide +kernel)) (fun _ h9 => h9) rfl (by decide +kernel) rfl rfl (Nat.le_of_ble_eq_true rfl) dX0_restart_2 (fun H locs hP hD hS => ?_)
  have hP : va_P (dC, dI) vwCl [(h, .inr (0, [.ref w, .int (nI 0), .int v.1, .int v.2.1, .int v.2.2.1, .int v.2.2.2]))] H := hP
  have hD : va_D A [(h, .inr (0, [.ref w, .int (nI 0), .int v.1, .int v.2.1, .int v.2.2.1, .int v.2.2.2]))] := hD
  refine lv_aload_n hx hb dX0_restart_5 rfl (lv_at hl 0 rfl) ?_
  refine lv_ldc (v := (1732584193)) hx hb hown (hts (.constant RX0 20 (1732584193)) (by decide +kernel)) dX0_restart_6 ?_
  refine va_put (D := (dC, dI)) (ci := 0) (v := .int (1732584193)) (ty := .int) (C := RX0) (T := TX0) (N := 6) hx hb hts (by decide +kernel) tyX0 tyX0_ok nmX0 hown hK hP hD hS 0 rfl rfl 2 (by decide) (hts (.fieldLink RX0 21 "KeySums$Summer" "a" "I") (by decide +kernel)) (fun _ h9 => h9) rfl (by decide +kernel) rfl rfl (Nat.le_of_ble_eq_true rfl) dX0_restart_8 (fun H locs hP hD hS => ?_)
  have hP : va_P (dC, dI) vwCl [(h, .inr (0, [.ref w, .int (nI 0), .int (1732584193), .int v.2.1, .int v.2.2.1, .int v.2.2.2]))] H := hP
  have hD : va_D A [(h, .inr (0, [.ref w, .int (nI 0), .int (1732584193), .int v.2.1, .int v.2.2.1, .int v.2.2.2]))] := hD
  refine lv_aload_n hx hb dX0_restart_11 rfl (lv_at hl 0 rfl) ?_
  refine lv_ldc (v := (-271733879)) hx hb hown (hts (.constant RX0 24 (-271733879)) (by decide +kernel)) dX0_restart_12 ?_
  refine va_put (D := (dC, dI)) (ci := 0) (v := .int (-271733879)) (ty := .int) (C := RX0) (T := TX0) (N := 6) hx hb hts (by decide +kernel) tyX0 tyX0_ok nmX0 hown hK hP hD hS 0 rfl rfl 3 (by decide) (hts (.fieldLink RX0 25 "KeySums$Summer" "b" "I") (by decide +kernel)) (fun _ h9 => h9) rfl (by decide +kernel) rfl rfl (Nat.le_of_ble_eq_true rfl) dX0_restart_14 (fun H locs hP hD hS => ?_)
  have hP : va_P (dC, dI) vwCl [(h, .inr (0, [.ref w, .int (nI 0), .int (1732584193), .int (-271733879), .int v.2.2.1, .int v.2.2.2]))] H := hP
  have hD : va_D A [(h, .inr (0, [.ref w, .int (nI 0), .int (1732584193), .int (-271733879), .int v.2.2.1, .int v.2.2.2]))] := hD
  refine lv_aload_n hx hb dX0_restart_17 rfl (lv_at hl 0 rfl) ?_
  refine lv_ldc (v := (-1732584194)) hx hb hown (hts (.constant RX0 28 (-1732584194)) (by decide +kernel)) dX0_restart_18 ?_
  refine va_put (D := (dC, dI)) (ci := 0) (v := .int (-1732584194)) (ty := .int) (C := RX0) (T := TX0) (N := 6) hx hb hts (by decide +kernel) tyX0 tyX0_ok nmX0 hown hK hP hD hS 0 rfl rfl 4 (by decide) (hts (.fieldLink RX0 29 "KeySums$Summer" "c" "I") (by decide +kernel)) (fun _ h9 => h9) rfl (by decide +kernel) rfl rfl (Nat.le_of_ble_eq_true rfl) dX0_restart_20 (fun H locs hP hD hS => ?_)
  have hP : va_P (dC, dI) vwCl [(h, .inr (0, [.ref w, .int (nI 0), .int (1732584193), .int (-271733879), .int (-1732584194), .int v.2.2.2]))] H := hP
  have hD : va_D A [(h, .inr (0, [.ref w, .int (nI 0), .int (1732584193), .int (-271733879), .int (-1732584194), .int v.2.2.2]))] := hD
  refine lv_aload_n hx hb dX0_restart_23 rfl (lv_at hl 0 rfl) ?_
  refine lv_ldc (v := (271733878)) hx hb hown (hts (.constant RX0 32 (271733878)) (by decide +kernel)) dX0_restart_24 ?_
  refine va_put (D := (dC, dI)) (ci := 0) (v := .int (271733878)) (ty := .int) (C := RX0) (T := TX0) (N := 6) hx hb hts (by decide +kernel) tyX0 tyX0_ok nmX0 hown hK hP hD hS 0 rfl rfl 5 (by decide) (hts (.fieldLink RX0 33 "KeySums$Summer" "d" "I") (by decide +kernel)) (fun _ h9 => h9) rfl (by decide +kernel) rfl rfl (Nat.le_of_ble_eq_true rfl) dX0_restart_26 (fun H locs hP hD hS => ?_)
  have hP : va_P (dC, dI) vwCl [(h, .inr (0, [.ref w, .int (nI 0), .int (1732584193), .int (-271733879), .int (-1732584194), .int (271733878)]))] H := hP
  have hD : va_D A [(h, .inr (0, [.ref w, .int (nI 0), .int (1732584193), .int (-271733879), .int (-1732584194), .int (271733878)]))] := hD
  have hP9 := hP.sub (ws' := [(h, .inr (0, [.ref w, .int (nI 0), .int (1732584193), .int (-271733879), .int (-1732584194), .int (271733878)]))]) [0] rfl
  have hD9 := hD.sub (ws' := [(h, .inr (0, [.ref w, .int (nI 0), .int (1732584193), .int (-271733879), .int (-1732584194), .int (271733878)]))]) [0] (by decide) rfl
  have hK9 := hK.sub (tys' := []) [] rfl
  exact W.vret hx hb hr (fun t ht hW => ⟨⟨(), rfl, trivial, by rw [ht]; exact hP9, va_K.moved hW.alike hK9, hD9⟩, hS.F ht⟩) hS.2.2 dX0_restart_29

/-- four bytes, the highest first, from place k on -/
def ks_wr (ft : Nat → Int32) (k : Nat) (x : Int32) : Nat → Int32 := upd (upd (upd (upd ft k (ks_us x 24).toInt8.toInt32) (k + 1) (ks_us x 16).toInt8.toInt32) (k + 2) (ks_us x 8).toInt8.toInt32) (k + 3) x.toInt8.toInt32

set_option maxHeartbeats 4000000 in
set_option maxRecDepth 100000 in
/-- writeNumber -/
theorem c_writeNumber (l : Launch) (dC : Nat → ClassId) (dI : Nat → Nat → Nat) (sz : Nat) (h qt qk qs qm : Nat) (cT : ClassId) (tn hs : Int32) (ft : Nat → Int32) (k : Nat) (x : Int32) (hk : k + 4 ≤ 2000) : Met l yX1_writeNumber wsX1_writeNumber ({ frames := 0, cells := 0, slots := 0, locals := 0 }) (va_Pc [.ref h, .int (nI k), .int x] (fun U => U.heap.size = sz ∧ va_P (dC, dI) vwCl [(h, .inr (1, [.ref qt, .int tn, .ref qk, .ref qs, .ref qm, .int hs])), (qt, .inl (cT, 2000, .inl ft))] U.heap ∧ va_K (dC, dI) vwCl [(cT, .byte)] U ∧ va_D (fun _ => True) [(h, .inr (1, [.ref qt, .int tn, .ref qk, .ref qs, .ref qm, .int hs])), (qt, .inl (cT, 2000, .inl ft))])) (va_Qv (fun _u : Unit => True) (fun (_u : Unit) t => kz_B dC dI [(cT, .byte)] (va_A [(h, .inr (1, [.ref qt, .int tn, .ref qk, .ref qs, .ref qm, .int hs])), (qt, .inl (cT, 2000, .inl ft))] sz) [(h, .inr (1, [.ref qt, .int tn, .ref qk, .ref qs, .ref qm, .int hs])), (qt, .inl (cT, 2000, .inl (ks_wr ft k x)))] t) (va_A [(h, .inr (1, [.ref qt, .int tn, .ref qk, .ref qs, .ref qm, .int hs])), (qt, .inl (cT, 2000, .inl ft))] sz)) 0 0 (va_A [(h, .inr (1, [.ref qt, .int tn, .ref qk, .ref qs, .ref qm, .int hs])), (qt, .inl (cT, 2000, .inl ft))] sz) := by
  refine Met.ofW (cc := cX1_writeNumber) (maxL := 3) (ret := none) (by decide) rfl ?_
  intro p e s m args below meth c s₁ B hml hv
  obtain ⟨rfl, hsz, hP, hK, hD0⟩ := hv
  have hx := B.exec
  have hb := B.bytes
  have hr := B.returns
  have hts := atoms_spec (ws := wsX1_writeNumber) B.pre
  have hown : s.vm.findClass RX1 = some m.cls := findClass_of_methodNamed B.named
  have hlocks := B.notSynchronized
  subst hsz
  have hD := hD0.self (sz := s.heap.size)
  generalize hAe : va_A [(h, .inr (1, [.ref qt, .int tn, .ref qk, .ref qs, .ref qm, .int hs])), (qt, .inl (cT, 2000, .inl ft))] s.heap.size = A at hD  ⊢
  have hA : ∀ q : Nat, s.heap.size ≤ q → A q := fun q h => by rw [← hAe]; exact Or.inr h
  have hS : va_S A s.heap s.heap [] := va_S.rf
  have hP : va_P (dC, dI) vwCl [(h, .inr (1, [.ref qt, .int tn, .ref qk, .ref qs, .ref qm, .int hs])), (qt, .inl (cT, 2000, .inl ft))] s.heap := hP
  have hl := lv_entry ([.ref h, .int (nI k), .int x]) (n := 3) (Nat.le_of_ble_eq_true rfl)
  rw [lg_entry_eq]
  generalize (lg_sl ([.ref h, .int (nI k), .int x]) ++ List.replicate (3 - (lg_sl ([.ref h, .int (nI k), .int x])).length) Slot.unset).toArray = ls at hl ⊢
  have hl : lv_has ls 3 [(0, .ref h), (1, .int (nI k)), (2, .int x)] := hl
  refine lv_aload_n hx hb dX1_writeNumber_0 rfl (lv_at hl 0 rfl) ?_
  refine va_get (D := (dC, dI)) (ci := 1) (v := .ref qt) (C := RX1) (T := TX1) (N := 6) hx hb hts (by decide +kernel) hown hK hP 0 rfl rfl 0 (by decide) (hts (.fieldLink RX1 9 "KeySums" "tape" "[B") (by decide +kernel)) (fun _ h9 => h9) rfl dX1_writeNumber_1 ?_
  refine lv_iload_n hx hb dX1_writeNumber_4 rfl (lv_at hl 1 rfl) ?_
  refine lv_iload_n hx hb dX1_writeNumber_5 rfl (lv_at hl 2 rfl) ?_
  refine lv_bipush (v := 24) hx hb dX1_writeNumber_6 (by decide) ?_
  refine lv_iushr (v := ks_us x 24) hx hb dX1_writeNumber_8 rfl ?_
  refine lv_i2b (v := (ks_us x 24).toInt8.toInt32) hx hb dX1_writeNumber_9 rfl ?_
  refine kz_bast (j := k) (x := (ks_us x 24).toInt8.toInt32) (x2 := (ks_us x 24).toInt8.toInt32) hx hb hK hP hD hS 1 0 rfl rfl (show k < 2000 by omega) (by decide) (pk_vb _) dX1_writeNumber_10 (fun H locs hP hD hS => ?_)
  have hP : va_P (dC, dI) vwCl [(h, .inr (1, [.ref qt, .int tn, .ref qk, .ref qs, .ref qm, .int hs])), (qt, .inl (cT, 2000, .inl (upd ft k ((ks_us x 24).toInt8.toInt32))))] H := hP
  have hD : va_D A [(h, .inr (1, [.ref qt, .int tn, .ref qk, .ref qs, .ref qm, .int hs])), (qt, .inl (cT, 2000, .inl (upd ft k ((ks_us x 24).toInt8.toInt32))))] := hD
  refine lv_aload_n hx hb dX1_writeNumber_11 rfl (lv_at hl 0 rfl) ?_
  refine va_get (D := (dC, dI)) (ci := 1) (v := .ref qt) (C := RX1) (T := TX1) (N := 6) hx hb hts (by decide +kernel) hown hK hP 0 rfl rfl 0 (by decide) (hts (.fieldLink RX1 9 "KeySums" "tape" "[B") (by decide +kernel)) (fun _ h9 => h9) rfl dX1_writeNumber_12 ?_
  refine lv_iload_n hx hb dX1_writeNumber_15 rfl (lv_at hl 1 rfl) ?_
  refine lv_iconst (v := 1) hx hb dX1_writeNumber_16 (by decide) ?_
  refine lv_iadd hx hb dX1_writeNumber_17 ?_
  refine kz_top (y := nI (k + 1)) (nI_1 k) ?_
  refine lv_iload_n hx hb dX1_writeNumber_18 rfl (lv_at hl 2 rfl) ?_
  refine lv_bipush (v := 16) hx hb dX1_writeNumber_19 (by decide) ?_
  refine lv_iushr (v := ks_us x 16) hx hb dX1_writeNumber_21 rfl ?_
  refine lv_i2b (v := (ks_us x 16).toInt8.toInt32) hx hb dX1_writeNumber_22 rfl ?_
  refine kz_bast (j := (k + 1)) (x := (ks_us x 16).toInt8.toInt32) (x2 := (ks_us x 16).toInt8.toInt32) hx hb hK hP hD hS 1 0 rfl rfl (show k + 1 < 2000 by omega) (by decide) (pk_vb _) dX1_writeNumber_23 (fun H locs hP hD hS => ?_)
  have hP : va_P (dC, dI) vwCl [(h, .inr (1, [.ref qt, .int tn, .ref qk, .ref qs, .ref qm, .int hs])), (qt, .inl (cT, 2000, .inl (upd (upd ft k ((ks_us x 24).toInt8.toInt32)) (k + 1) ((ks_us x 16).toInt8.toInt32))))] H := hP
  have hD : va_D A [(h, .inr (1, [.ref qt, .int tn, .ref qk, .ref qs, .ref qm, .int hs])), (qt, .inl (cT, 2000, .inl (upd (upd ft k ((ks_us x 24).toInt8.toInt32)) (k + 1) ((ks_us x 16).toInt8.toInt32))))] := hD
  refine lv_aload_n hx hb dX1_writeNumber_24 rfl (lv_at hl 0 rfl) ?_
  refine va_get (D := (dC, dI)) (ci := 1) (v := .ref qt) (C := RX1) (T := TX1) (N := 6) hx hb hts (by decide +kernel) hown hK hP 0 rfl rfl 0 (by decide) (hts (.fieldLink RX1 9 "KeySums" "tape" "[B") (by decide +kernel)) (fun _ h9 => h9) rfl dX1_writeNumber_25 ?_
  refine lv_iload_n hx hb dX1_writeNumber_28 rfl (lv_at hl 1 rfl) ?_
  refine lv_iconst (v := 2) hx hb dX1_writeNumber_29 (by decide) ?_
  refine lv_iadd hx hb dX1_writeNumber_30 ?_
  refine kz_top (y := nI (k + 2)) (nI_add k 2) ?_
  refine lv_iload_n hx hb dX1_writeNumber_31 rfl (lv_at hl 2 rfl) ?_
  refine lv_bipush (v := 8) hx hb dX1_writeNumber_32 (by decide) ?_
  refine lv_iushr (v := ks_us x 8) hx hb dX1_writeNumber_34 rfl ?_
  refine lv_i2b (v := (ks_us x 8).toInt8.toInt32) hx hb dX1_writeNumber_35 rfl ?_
  refine kz_bast (j := (k + 2)) (x := (ks_us x 8).toInt8.toInt32) (x2 := (ks_us x 8).toInt8.toInt32) hx hb hK hP hD hS 1 0 rfl rfl (show k + 2 < 2000 by omega) (by decide) (pk_vb _) dX1_writeNumber_36 (fun H locs hP hD hS => ?_)
  have hP : va_P (dC, dI) vwCl [(h, .inr (1, [.ref qt, .int tn, .ref qk, .ref qs, .ref qm, .int hs])), (qt, .inl (cT, 2000, .inl (upd (upd (upd ft k ((ks_us x 24).toInt8.toInt32)) (k + 1) ((ks_us x 16).toInt8.toInt32)) (k + 2) ((ks_us x 8).toInt8.toInt32))))] H := hP
  have hD : va_D A [(h, .inr (1, [.ref qt, .int tn, .ref qk, .ref qs, .ref qm, .int hs])), (qt, .inl (cT, 2000, .inl (upd (upd (upd ft k ((ks_us x 24).toInt8.toInt32)) (k + 1) ((ks_us x 16).toInt8.toInt32)) (k + 2) ((ks_us x 8).toInt8.toInt32))))] := hD
  refine lv_aload_n hx hb dX1_writeNumber_37 rfl (lv_at hl 0 rfl) ?_
  refine va_get (D := (dC, dI)) (ci := 1) (v := .ref qt) (C := RX1) (T := TX1) (N := 6) hx hb hts (by decide +kernel) hown hK hP 0 rfl rfl 0 (by decide) (hts (.fieldLink RX1 9 "KeySums" "tape" "[B") (by decide +kernel)) (fun _ h9 => h9) rfl dX1_writeNumber_38 ?_
  refine lv_iload_n hx hb dX1_writeNumber_41 rfl (lv_at hl 1 rfl) ?_
  refine lv_iconst (v := 3) hx hb dX1_writeNumber_42 (by decide) ?_
  refine lv_iadd hx hb dX1_writeNumber_43 ?_
  refine kz_top (y := nI (k + 3)) (nI_add k 3) ?_
  refine lv_iload_n hx hb dX1_writeNumber_44 rfl (lv_at hl 2 rfl) ?_
  refine lv_i2b (v := x.toInt8.toInt32) hx hb dX1_writeNumber_45 rfl ?_
  refine kz_bast (j := (k + 3)) (x := x.toInt8.toInt32) (x2 := x.toInt8.toInt32) hx hb hK hP hD hS 1 0 rfl rfl (show k + 3 < 2000 by omega) (by decide) (pk_vb _) dX1_writeNumber_46 (fun H locs hP hD hS => ?_)
  have hP : va_P (dC, dI) vwCl [(h, .inr (1, [.ref qt, .int tn, .ref qk, .ref qs, .ref qm, .int hs])), (qt, .inl (cT, 2000, .inl (upd (upd (upd (upd ft k ((ks_us x 24).toInt8.toInt32)) (k + 1) ((ks_us x 16).toInt8.toInt32)) (k + 2) ((ks_us x 8).toInt8.toInt32)) (k + 3) x.toInt8.toInt32)))] H := hP
  have hD : va_D A [(h, .inr (1, [.ref qt, .int tn, .ref qk, .ref qs, .ref qm, .int hs])), (qt, .inl (cT, 2000, .inl (upd (upd (upd (upd ft k ((ks_us x 24).toInt8.toInt32)) (k + 1) ((ks_us x 16).toInt8.toInt32)) (k + 2) ((ks_us x 8).toInt8.toInt32)) (k + 3) x.toInt8.toInt32)))] := hD
  have hP9 := hP.sub (ws' := [(h, .inr (1, [.ref qt, .int tn, .ref qk, .ref qs, .ref qm, .int hs])), (qt, .inl (cT, 2000, .inl (ks_wr ft k x)))]) [0, 1] rfl
  have hD9 := hD.sub (ws' := [(h, .inr (1, [.ref qt, .int tn, .ref qk, .ref qs, .ref qm, .int hs])), (qt, .inl (cT, 2000, .inl (ks_wr ft k x)))]) [0, 1] (by decide) rfl
  have hK9 := hK.sub (tys' := [(cT, .byte)]) [0] rfl
  exact W.vret hx hb hr (fun t ht hW => ⟨⟨(), rfl, trivial, by rw [ht]; exact hP9, va_K.moved hW.alike hK9, hD9⟩, hS.F ht⟩) hS.2.2 dX1_writeNumber_47

set_option maxHeartbeats 4000000 in
set_option maxRecDepth 100000 in
/-- feed, the tape too full -/
theorem c_feed_no (l : Launch) (dC : Nat → ClassId) (dI : Nat → Nat → Nat) (sz : Nat) (h qt qk qs qm : Nat) (cT : ClassId) (tn : Nat) (hs : Int32) (ft : Nat → Int32) (xa xb xc xd xe : Int32) (h1 : 1980 < tn) (h2 : tn ≤ 2000) : Met l yX1_feed wsX1_feed ({ frames := 1, cells := 0, slots := 0, locals := 40 }) (va_Pc [.ref h, .int xa, .int xb, .int xc, .int xd, .int xe] (fun U => U.heap.size = sz ∧ va_P (dC, dI) vwCl [(h, .inr (1, [.ref qt, .int (nI tn), .ref qk, .ref qs, .ref qm, .int hs])), (qt, .inl (cT, 2000, .inl ft))] U.heap ∧ va_K (dC, dI) vwCl [(cT, .byte)] U ∧ va_D (fun _ => True) [(h, .inr (1, [.ref qt, .int (nI tn), .ref qk, .ref qs, .ref qm, .int hs])), (qt, .inl (cT, 2000, .inl ft))])) (va_Qi (fun (r : Int32) (_u : Unit) => r = 0) (fun (_u : Unit) t => kz_B dC dI [(cT, .byte)] (va_A [(h, .inr (1, [.ref qt, .int (nI tn), .ref qk, .ref qs, .ref qm, .int hs])), (qt, .inl (cT, 2000, .inl ft))] sz) [(h, .inr (1, [.ref qt, .int (nI tn), .ref qk, .ref qs, .ref qm, .int hs])), (qt, .inl (cT, 2000, .inl ft))] t) (va_A [(h, .inr (1, [.ref qt, .int (nI tn), .ref qk, .ref qs, .ref qm, .int hs])), (qt, .inl (cT, 2000, .inl ft))] sz)) 0 0 (va_A [(h, .inr (1, [.ref qt, .int (nI tn), .ref qk, .ref qs, .ref qm, .int hs])), (qt, .inl (cT, 2000, .inl ft))] sz) := by
  refine Met.ofW (cc := cX1_feed) (maxL := 6) (ret := (some .boolean)) (by decide) rfl ?_
  intro p e s m args below meth c s₁ B hml hv
  obtain ⟨rfl, hsz, hP, hK, hD0⟩ := hv
  have hx := B.exec
  have hb := B.bytes
  have hr := B.returns
  have hts := atoms_spec (ws := wsX1_feed) B.pre
  have hown : s.vm.findClass RX1 = some m.cls := findClass_of_methodNamed B.named
  have hlocks := B.notSynchronized
  subst hsz
  have hD := hD0.self (sz := s.heap.size)
  generalize hAe : va_A [(h, .inr (1, [.ref qt, .int (nI tn), .ref qk, .ref qs, .ref qm, .int hs])), (qt, .inl (cT, 2000, .inl ft))] s.heap.size = A at hD  ⊢
  have hA : ∀ q : Nat, s.heap.size ≤ q → A q := fun q h => by rw [← hAe]; exact Or.inr h
  have hS : va_S A s.heap s.heap [] := va_S.rf
  have hP : va_P (dC, dI) vwCl [(h, .inr (1, [.ref qt, .int (nI tn), .ref qk, .ref qs, .ref qm, .int hs])), (qt, .inl (cT, 2000, .inl ft))] s.heap := hP
  have hl := lv_entry ([.ref h, .int xa, .int xb, .int xc, .int xd, .int xe]) (n := 6) (Nat.le_of_ble_eq_true rfl)
  rw [lg_entry_eq]
  generalize (lg_sl ([.ref h, .int xa, .int xb, .int xc, .int xd, .int xe]) ++ List.replicate (6 - (lg_sl ([.ref h, .int xa, .int xb, .int xc, .int xd, .int xe])).length) Slot.unset).toArray = ls at hl ⊢
  have hl : lv_has ls 6 [(0, .ref h), (1, .int xa), (2, .int xb), (3, .int xc), (4, .int xd), (5, .int xe)] := hl
  refine lv_aload_n hx hb dX1_feed_0 rfl (lv_at hl 0 rfl) ?_
  refine va_get (D := (dC, dI)) (ci := 1) (v := .int (nI tn)) (C := RX1) (T := TX1) (N := 6) hx hb hts (by decide +kernel) hown hK hP 0 rfl rfl 1 (by decide) (hts (.fieldLink RX1 13 "KeySums" "tapeSize" "I") (by decide +kernel)) (fun _ h9 => h9) rfl dX1_feed_1 ?_
  refine lv_sipush (v := 1980) hx hb dX1_feed_4 (by decide) ?_
  refine lv_icmp_le (tgt := 12) hx hb dX1_feed_7 (by decide) (fun hc => ?_) (fun hc => ?_)
  · skip
    exact absurd hc (nI_ge (a := 1980) (b := tn) h1 (by omega))
  · skip
    refine lv_iconst (v := 0) hx hb dX1_feed_10 (by decide) ?_
    have hP9 := hP.sub (ws' := [(h, .inr (1, [.ref qt, .int (nI tn), .ref qk, .ref qs, .ref qm, .int hs])), (qt, .inl (cT, 2000, .inl ft))]) [0, 1] rfl
    have hD9 := hD.sub (ws' := [(h, .inr (1, [.ref qt, .int (nI tn), .ref qk, .ref qs, .ref qm, .int hs])), (qt, .inl (cT, 2000, .inl ft))]) [0, 1] (by decide) rfl
    have hK9 := hK.sub (tys' := [(cT, .byte)]) [0] rfl
    exact W.zret (v := 0) (ty := .boolean) hx hb hr (by rfl) (fun t ht hW => ⟨⟨0, (), rfl, rfl, by rw [ht]; exact hP9, va_K.moved hW.alike hK9, hD9⟩, hS.F ht⟩) hS.2.2 dX1_feed_11

set_option maxHeartbeats 4000000 in
set_option maxRecDepth 100000 in
/-- feed -/
theorem c_feed_ok (l : Launch) (dC : Nat → ClassId) (dI : Nat → Nat → Nat) (sz : Nat) (h qt qk qs qm : Nat) (cT : ClassId) (tn : Nat) (hs : Int32) (ft : Nat → Int32) (xa xb xc xd xe : Int32) (h1 : tn ≤ 1980) : Met l yX1_feed wsX1_feed ({ frames := 1, cells := 0, slots := 0, locals := 40 }) (va_Pc [.ref h, .int xa, .int xb, .int xc, .int xd, .int xe] (fun U => U.heap.size = sz ∧ va_P (dC, dI) vwCl [(h, .inr (1, [.ref qt, .int (nI tn), .ref qk, .ref qs, .ref qm, .int hs])), (qt, .inl (cT, 2000, .inl ft))] U.heap ∧ va_K (dC, dI) vwCl [(cT, .byte)] U ∧ va_D (fun _ => True) [(h, .inr (1, [.ref qt, .int (nI tn), .ref qk, .ref qs, .ref qm, .int hs])), (qt, .inl (cT, 2000, .inl ft))])) (va_Qi (fun (r : Int32) (_u : Unit) => r = 1) (fun (_u : Unit) t => kz_B dC dI [(cT, .byte)] (va_A [(h, .inr (1, [.ref qt, .int (nI tn), .ref qk, .ref qs, .ref qm, .int hs])), (qt, .inl (cT, 2000, .inl ft))] sz) [(h, .inr (1, [.ref qt, .int (nI (tn + 20)), .ref qk, .ref qs, .ref qm, .int hs])), (qt, .inl (cT, 2000, .inl (ks_wr (ks_wr (ks_wr (ks_wr (ks_wr ft tn xa) (tn + 4) xb) (tn + 8) xc) (tn + 12) xd) (tn + 16) xe)))] t) (va_A [(h, .inr (1, [.ref qt, .int (nI tn), .ref qk, .ref qs, .ref qm, .int hs])), (qt, .inl (cT, 2000, .inl ft))] sz)) 0 0 (va_A [(h, .inr (1, [.ref qt, .int (nI tn), .ref qk, .ref qs, .ref qm, .int hs])), (qt, .inl (cT, 2000, .inl ft))] sz) := by
  refine Met.ofW (cc := cX1_feed) (maxL := 6) (ret := (some .boolean)) (by decide) rfl ?_
  intro p e s m args below meth c s₁ B hml hv
  obtain ⟨rfl, hsz, hP, hK, hD0⟩ := hv
  have hx := B.exec
  have hb := B.bytes
  have hr := B.returns
  have hts := atoms_spec (ws := wsX1_feed) B.pre
  have hown : s.vm.findClass RX1 = some m.cls := findClass_of_methodNamed B.named
  have hlocks := B.notSynchronized
  subst hsz
  have hD := hD0.self (sz := s.heap.size)
  generalize hAe : va_A [(h, .inr (1, [.ref qt, .int (nI tn), .ref qk, .ref qs, .ref qm, .int hs])), (qt, .inl (cT, 2000, .inl ft))] s.heap.size = A at hD  ⊢
  have hA : ∀ q : Nat, s.heap.size ≤ q → A q := fun q h => by rw [← hAe]; exact Or.inr h
  have hS : va_S A s.heap s.heap [] := va_S.rf
  have hP : va_P (dC, dI) vwCl [(h, .inr (1, [.ref qt, .int (nI tn), .ref qk, .ref qs, .ref qm, .int hs])), (qt, .inl (cT, 2000, .inl ft))] s.heap := hP
  have hl := lv_entry ([.ref h, .int xa, .int xb, .int xc, .int xd, .int xe]) (n := 6) (Nat.le_of_ble_eq_true rfl)
  rw [lg_entry_eq]
  generalize (lg_sl ([.ref h, .int xa, .int xb, .int xc, .int xd, .int xe]) ++ List.replicate (6 - (lg_sl ([.ref h, .int xa, .int xb, .int xc, .int xd, .int xe])).length) Slot.unset).toArray = ls at hl ⊢
  have hl : lv_has ls 6 [(0, .ref h), (1, .int xa), (2, .int xb), (3, .int xc), (4, .int xd), (5, .int xe)] := hl
  refine lv_aload_n hx hb dX1_feed_0 rfl (lv_at hl 0 rfl) ?_
  refine va_get (D := (dC, dI)) (ci := 1) (v := .int (nI tn)) (C := RX1) (T := TX1) (N := 6) hx hb hts (by decide +kernel) hown hK hP 0 rfl rfl 1 (by decide) (hts (.fieldLink RX1 13 "KeySums" "tapeSize" "I") (by decide +kernel)) (fun _ h9 => h9) rfl dX1_feed_1 ?_
  refine lv_sipush (v := 1980) hx hb dX1_feed_4 (by decide) ?_
  refine lv_icmp_le (tgt := 12) hx hb dX1_feed_7 (by decide) (fun hc => ?_) (fun hc => ?_)
  · skip
    refine lv_aload_n hx hb dX1_feed_12 rfl (lv_at hl 0 rfl) ?_
    refine lv_aload_n hx hb dX1_feed_13 rfl (lv_at hl 0 rfl) ?_
    refine va_get (D := (dC, dI)) (ci := 1) (v := .int (nI tn)) (C := RX1) (T := TX1) (N := 6) hx hb hts (by decide +kernel) hown hK hP 0 rfl rfl 1 (by decide) (hts (.fieldLink RX1 13 "KeySums" "tapeSize" "I") (by decide +kernel)) (fun _ h9 => h9) rfl dX1_feed_14 ?_
    refine lv_iload_n hx hb dX1_feed_17 rfl (lv_at hl 1 rfl) ?_
    have ho0 : tn + 4 ≤ 2000 := by omega
    have hPc := hP.sub (ws' := [(h, .inr (1, [.ref qt, .int (nI tn), .ref qk, .ref qs, .ref qm, .int hs])), (qt, .inl (cT, 2000, .inl ft))]) [0, 1] rfl
    have hDc := hD.sub (ws' := [(h, .inr (1, [.ref qt, .int (nI tn), .ref qk, .ref qs, .ref qm, .int hs])), (qt, .inl (cT, 2000, .inl ft))]) [0, 1] (by decide) rfl
    have hKc := hK.sub (tys' := [(cT, .byte)]) [0] rfl
    have hFc := va_free (wc := [(h, .inr (1, [.ref qt, .int (nI tn), .ref qk, .ref qs, .ref qm, .int hs])), (qt, .inl (cT, 2000, .inl ft))]) hD hS hA [0, 1] rfl
    refine va_callv (va_runV (As := [.int (nI tn), .int xa]) (rest := []) ⟨hx, hb, hml, hown, hts⟩ (c_writeNumber l dC dI s.heap.size h qt qk qs qm cT (nI tn) hs ft tn xa ho0) (cwV 2 hts gX1_feed_X1_writeNumber rfl rfl rfl (by decide +kernel) ⟨Nat.le_of_ble_eq_true rfl, Nat.le_of_ble_eq_true rfl⟩) ⟨fun a U g mk q => by obtain ⟨q0, q1, qP, qK, qD⟩ := q; exact ⟨q0, q1, qP, va_K.moved (u := U) (U := U.calling g mk a) (Vm.Alike.refl U.vm) qK, qD⟩, va_recv hKc hPc (ci := 1) (q0 := 0) rfl rfl, fun U hU hW => ⟨rfl, by rw [hU], by rw [hU]; exact hPc, va_K.moved hW.alike hKc, hDc.weaken (fun _ _ _ _ => trivial)⟩⟩ rfl rfl hl.1 rfl (lv_room (Nat.le_of_ble_eq_true rfl)) dX1_feed_18 ⟨Nat.zero_le _, Nat.zero_le _⟩) hS (fun q _ h => hFc q h) hFc (fun u t H1 locs ht hvm hw hB hz1 hk1 hS => ?_)
    obtain ⟨hP1, hK1, hD1⟩ := hB
    rw [ht] at hP1
    have hK1 := va_K.moved hvm.symm hK1
    try dsimp only at hw
    obtain ⟨hP, hD⟩ := va_join (wr := []) (w1 := [(h, .inr (1, [.ref qt, .int (nI tn), .ref qk, .ref qs, .ref qm, .int hs])), (qt, .inl (cT, 2000, .inl (ks_wr ft tn xa)))]) hP hD [0, 1] [] rfl rfl (by decide) (by decide) hk1 hFc hP1 hD1
    have hP := hP.sub (ws' := [(h, .inr (1, [.ref qt, .int (nI tn), .ref qk, .ref qs, .ref qm, .int hs])), (qt, .inl (cT, 2000, .inl (ks_wr ft tn xa)))]) [0, 1] rfl
    have hD := hD.sub (ws' := [(h, .inr (1, [.ref qt, .int (nI tn), .ref qk, .ref qs, .ref qm, .int hs])), (qt, .inl (cT, 2000, .inl (ks_wr ft tn xa)))]) [0, 1] (by decide) rfl
    generalize H1 = H at hP hS ⊢
    have hP : va_P (dC, dI) vwCl [(h, .inr (1, [.ref qt, .int (nI tn), .ref qk, .ref qs, .ref qm, .int hs])), (qt, .inl (cT, 2000, .inl (ks_wr ft tn xa)))] H := hP
    have hD : va_D A [(h, .inr (1, [.ref qt, .int (nI tn), .ref qk, .ref qs, .ref qm, .int hs])), (qt, .inl (cT, 2000, .inl (ks_wr ft tn xa)))] := hD
    refine lv_aload_n hx hb dX1_feed_21 rfl (lv_at hl 0 rfl) ?_
    refine lv_aload_n hx hb dX1_feed_22 rfl (lv_at hl 0 rfl) ?_
    refine va_get (D := (dC, dI)) (ci := 1) (v := .int (nI tn)) (C := RX1) (T := TX1) (N := 6) hx hb hts (by decide +kernel) hown hK hP 0 rfl rfl 1 (by decide) (hts (.fieldLink RX1 13 "KeySums" "tapeSize" "I") (by decide +kernel)) (fun _ h9 => h9) rfl dX1_feed_23 ?_
    refine lv_iconst (v := 4) hx hb dX1_feed_26 (by decide) ?_
    refine lv_iadd hx hb dX1_feed_27 ?_
    refine kz_top (y := nI (tn + 4)) (nI_add tn 4) ?_
    refine lv_iload_n hx hb dX1_feed_28 rfl (lv_at hl 2 rfl) ?_
    have ho1 : (tn + 4) + 4 ≤ 2000 := by omega
    have hPc := hP.sub (ws' := [(h, .inr (1, [.ref qt, .int (nI tn), .ref qk, .ref qs, .ref qm, .int hs])), (qt, .inl (cT, 2000, .inl (ks_wr ft tn xa)))]) [0, 1] rfl
    have hDc := hD.sub (ws' := [(h, .inr (1, [.ref qt, .int (nI tn), .ref qk, .ref qs, .ref qm, .int hs])), (qt, .inl (cT, 2000, .inl (ks_wr ft tn xa)))]) [0, 1] (by decide) rfl
    have hKc := hK.sub (tys' := [(cT, .byte)]) [0] rfl
    have hFc := va_free (wc := [(h, .inr (1, [.ref qt, .int (nI tn), .ref qk, .ref qs, .ref qm, .int hs])), (qt, .inl (cT, 2000, .inl (ks_wr ft tn xa)))]) hD hS hA [0, 1] rfl
    refine va_callv (va_runV (As := [.int (nI (tn + 4)), .int xb]) (rest := []) ⟨hx, hb, hml, hown, hts⟩ (c_writeNumber l dC dI H.size h qt qk qs qm cT (nI tn) hs (ks_wr ft tn xa) (tn + 4) xb ho1) (cwV 2 hts gX1_feed_X1_writeNumber rfl rfl rfl (by decide +kernel) ⟨Nat.le_of_ble_eq_true rfl, Nat.le_of_ble_eq_true rfl⟩) ⟨fun a U g mk q => by obtain ⟨q0, q1, qP, qK, qD⟩ := q; exact ⟨q0, q1, qP, va_K.moved (u := U) (U := U.calling g mk a) (Vm.Alike.refl U.vm) qK, qD⟩, va_recv hKc hPc (ci := 1) (q0 := 0) rfl rfl, fun U hU hW => ⟨rfl, by rw [hU], by rw [hU]; exact hPc, va_K.moved hW.alike hKc, hDc.weaken (fun _ _ _ _ => trivial)⟩⟩ rfl rfl hl.1 rfl (lv_room (Nat.le_of_ble_eq_true rfl)) dX1_feed_29 ⟨Nat.zero_le _, Nat.zero_le _⟩) hS (fun q _ h => hFc q h) hFc (fun u t H1 locs ht hvm hw hB hz1 hk1 hS => ?_)
    obtain ⟨hP1, hK1, hD1⟩ := hB
    rw [ht] at hP1
    have hK1 := va_K.moved hvm.symm hK1
    try dsimp only at hw
    obtain ⟨hP, hD⟩ := va_join (wr := []) (w1 := [(h, .inr (1, [.ref qt, .int (nI tn), .ref qk, .ref qs, .ref qm, .int hs])), (qt, .inl (cT, 2000, .inl (ks_wr (ks_wr ft tn xa) (tn + 4) xb)))]) hP hD [0, 1] [] rfl rfl (by decide) (by decide) hk1 hFc hP1 hD1
    have hP := hP.sub (ws' := [(h, .inr (1, [.ref qt, .int (nI tn), .ref qk, .ref qs, .ref qm, .int hs])), (qt, .inl (cT, 2000, .inl (ks_wr (ks_wr ft tn xa) (tn + 4) xb)))]) [0, 1] rfl
    have hD := hD.sub (ws' := [(h, .inr (1, [.ref qt, .int (nI tn), .ref qk, .ref qs, .ref qm, .int hs])), (qt, .inl (cT, 2000, .inl (ks_wr (ks_wr ft tn xa) (tn + 4) xb)))]) [0, 1] (by decide) rfl
    generalize H1 = H at hP hS ⊢
    have hP : va_P (dC, dI) vwCl [(h, .inr (1, [.ref qt, .int (nI tn), .ref qk, .ref qs, .ref qm, .int hs])), (qt, .inl (cT, 2000, .inl (ks_wr (ks_wr ft tn xa) (tn + 4) xb)))] H := hP
    have hD : va_D A [(h, .inr (1, [.ref qt, .int (nI tn), .ref qk, .ref qs, .ref qm, .int hs])), (qt, .inl (cT, 2000, .inl (ks_wr (ks_wr ft tn xa) (tn + 4) xb)))] := hD
    refine lv_aload_n hx hb dX1_feed_32 rfl (lv_at hl 0 rfl) ?_
    refine lv_aload_n hx hb dX1_feed_33 rfl (lv_at hl 0 rfl) ?_
    refine va_get (D := (dC, dI)) (ci := 1) (v := .int (nI tn)) (C := RX1) (T := TX1) (N := 6) hx hb hts (by decide +kernel) hown hK hP 0 rfl rfl 1 (by decide) (hts (.fieldLink RX1 13 "KeySums" "tapeSize" "I") (by decide +kernel)) (fun _ h9 => h9) rfl dX1_feed_34 ?_
    refine lv_bipush (v := 8) hx hb dX1_feed_37 (by decide) ?_
    refine lv_iadd hx hb dX1_feed_39 ?_
    refine kz_top (y := nI (tn + 8)) (nI_add tn 8) ?_
    refine lv_iload_n hx hb dX1_feed_40 rfl (lv_at hl 3 rfl) ?_
    have ho2 : (tn + 8) + 4 ≤ 2000 := by omega
    have hPc := hP.sub (ws' := [(h, .inr (1, [.ref qt, .int (nI tn), .ref qk, .ref qs, .ref qm, .int hs])), (qt, .inl (cT, 2000, .inl (ks_wr (ks_wr ft tn xa) (tn + 4) xb)))]) [0, 1] rfl
    have hDc := hD.sub (ws' := [(h, .inr (1, [.ref qt, .int (nI tn), .ref qk, .ref qs, .ref qm, .int hs])), (qt, .inl (cT, 2000, .inl (ks_wr (ks_wr ft tn xa) (tn + 4) xb)))]) [0, 1] (by decide) rfl
    have hKc := hK.sub (tys' := [(cT, .byte)]) [0] rfl
    have hFc := va_free (wc := [(h, .inr (1, [.ref qt, .int (nI tn), .ref qk, .ref qs, .ref qm, .int hs])), (qt, .inl (cT, 2000, .inl (ks_wr (ks_wr ft tn xa) (tn + 4) xb)))]) hD hS hA [0, 1] rfl
    refine va_callv (va_runV (As := [.int (nI (tn + 8)), .int xc]) (rest := []) ⟨hx, hb, hml, hown, hts⟩ (c_writeNumber l dC dI H.size h qt qk qs qm cT (nI tn) hs (ks_wr (ks_wr ft tn xa) (tn + 4) xb) (tn + 8) xc ho2) (cwV 2 hts gX1_feed_X1_writeNumber rfl rfl rfl (by decide +kernel) ⟨Nat.le_of_ble_eq_true rfl, Nat.le_of_ble_eq_true rfl⟩) ⟨fun a U g mk q => by obtain ⟨q0, q1, qP, qK, qD⟩ := q; exact ⟨q0, q1, qP, va_K.moved (u := U) (U := U.calling g mk a) (Vm.Alike.refl U.vm) qK, qD⟩, va_recv hKc hPc (ci := 1) (q0 := 0) rfl rfl, fun U hU hW => ⟨rfl, by rw [hU], by rw [hU]; exact hPc, va_K.moved hW.alike hKc, hDc.weaken (fun _ _ _ _ => trivial)⟩⟩ rfl rfl hl.1 rfl (lv_room (Nat.le_of_ble_eq_true rfl)) dX1_feed_41 ⟨Nat.zero_le _, Nat.zero_le _⟩) hS (fun q _ h => hFc q h) hFc (fun u t H1 locs ht hvm hw hB hz1 hk1 hS => ?_)
    obtain ⟨hP1, hK1, hD1⟩ := hB
    rw [ht] at hP1
    have hK1 := va_K.moved hvm.symm hK1
    try dsimp only at hw
    obtain ⟨hP, hD⟩ := va_join (wr := []) (w1 := [(h, .inr (1, [.ref qt, .int (nI tn), .ref qk, .ref qs, .ref qm, .int hs])), (qt, .inl (cT, 2000, .inl (ks_wr (ks_wr (ks_wr ft tn xa) (tn + 4) xb) (tn + 8) xc)))]) hP hD [0, 1] [] rfl rfl (by decide) (by decide) hk1 hFc hP1 hD1
    have hP := hP.sub (ws' := [(h, .inr (1, [.ref qt, .int (nI tn), .ref qk, .ref qs, .ref qm, .int hs])), (qt, .inl (cT, 2000, .inl (ks_wr (ks_wr (ks_wr ft tn xa) (tn + 4) xb) (tn + 8) xc)))]) [0, 1] rfl
    have hD := hD.sub (ws' := [(h, .inr (1, [.ref qt, .int (nI tn), .ref qk, .ref qs, .ref qm, .int hs])), (qt, .inl (cT, 2000, .inl (ks_wr (ks_wr (ks_wr ft tn xa) (tn + 4) xb) (tn + 8) xc)))]) [0, 1] (by decide) rfl
    generalize H1 = H at hP hS ⊢
    have hP : va_P (dC, dI) vwCl [(h, .inr (1, [.ref qt, .int (nI tn), .ref qk, .ref qs, .ref qm, .int hs])), (qt, .inl (cT, 2000, .inl (ks_wr (ks_wr (ks_wr ft tn xa) (tn + 4) xb) (tn + 8) xc)))] H := hP
    have hD : va_D A [(h, .inr (1, [.ref qt, .int (nI tn), .ref qk, .ref qs, .ref qm, .int hs])), (qt, .inl (cT, 2000, .inl (ks_wr (ks_wr (ks_wr ft tn xa) (tn + 4) xb) (tn + 8) xc)))] := hD
    refine lv_aload_n hx hb dX1_feed_44 rfl (lv_at hl 0 rfl) ?_
    refine lv_aload_n hx hb dX1_feed_45 rfl (lv_at hl 0 rfl) ?_
    refine va_get (D := (dC, dI)) (ci := 1) (v := .int (nI tn)) (C := RX1) (T := TX1) (N := 6) hx hb hts (by decide +kernel) hown hK hP 0 rfl rfl 1 (by decide) (hts (.fieldLink RX1 13 "KeySums" "tapeSize" "I") (by decide +kernel)) (fun _ h9 => h9) rfl dX1_feed_46 ?_
    refine lv_bipush (v := 12) hx hb dX1_feed_49 (by decide) ?_
    refine lv_iadd hx hb dX1_feed_51 ?_
    refine kz_top (y := nI (tn + 12)) (nI_add tn 12) ?_
    refine lv_iload hx hb dX1_feed_52 (lv_at hl 4 rfl) ?_
    have ho3 : (tn + 12) + 4 ≤ 2000 := by omega
    have hPc := hP.sub (ws' := [(h, .inr (1, [.ref qt, .int (nI tn), .ref qk, .ref qs, .ref qm, .int hs])), (qt, .inl (cT, 2000, .inl (ks_wr (ks_wr (ks_wr ft tn xa) (tn + 4) xb) (tn + 8) xc)))]) [0, 1] rfl
    have hDc := hD.sub (ws' := [(h, .inr (1, [.ref qt, .int (nI tn), .ref qk, .ref qs, .ref qm, .int hs])), (qt, .inl (cT, 2000, .inl (ks_wr (ks_wr (ks_wr ft tn xa) (tn + 4) xb) (tn + 8) xc)))]) [0, 1] (by decide) rfl
    have hKc := hK.sub (tys' := [(cT, .byte)]) [0] rfl
    have hFc := va_free (wc := [(h, .inr (1, [.ref qt, .int (nI tn), .ref qk, .ref qs, .ref qm, .int hs])), (qt, .inl (cT, 2000, .inl (ks_wr (ks_wr (ks_wr ft tn xa) (tn + 4) xb) (tn + 8) xc)))]) hD hS hA [0, 1] rfl
    refine va_callv (va_runV (As := [.int (nI (tn + 12)), .int xd]) (rest := []) ⟨hx, hb, hml, hown, hts⟩ (c_writeNumber l dC dI H.size h qt qk qs qm cT (nI tn) hs (ks_wr (ks_wr (ks_wr ft tn xa) (tn + 4) xb) (tn + 8) xc) (tn + 12) xd ho3) (cwV 2 hts gX1_feed_X1_writeNumber rfl rfl rfl (by decide +kernel) ⟨Nat.le_of_ble_eq_true rfl, Nat.le_of_ble_eq_true rfl⟩) ⟨fun a U g mk q => by obtain ⟨q0, q1, qP, qK, qD⟩ := q; exact ⟨q0, q1, qP, va_K.moved (u := U) (U := U.calling g mk a) (Vm.Alike.refl U.vm) qK, qD⟩, va_recv hKc hPc (ci := 1) (q0 := 0) rfl rfl, fun U hU hW => ⟨rfl, by rw [hU], by rw [hU]; exact hPc, va_K.moved hW.alike hKc, hDc.weaken (fun _ _ _ _ => trivial)⟩⟩ rfl rfl hl.1 rfl (lv_room (Nat.le_of_ble_eq_true rfl)) dX1_feed_54 ⟨Nat.zero_le _, Nat.zero_le _⟩) hS (fun q _ h => hFc q h) hFc (fun u t H1 locs ht hvm hw hB hz1 hk1 hS => ?_)
    obtain ⟨hP1, hK1, hD1⟩ := hB
    rw [ht] at hP1
    have hK1 := va_K.moved hvm.symm hK1
    try dsimp only at hw
    obtain ⟨hP, hD⟩ := va_join (wr := []) (w1 := [(h, .inr (1, [.ref qt, .int (nI tn), .ref qk, .ref qs, .ref qm, .int hs])), (qt, .inl (cT, 2000, .inl (ks_wr (ks_wr (ks_wr (ks_wr ft tn xa) (tn + 4) xb) (tn + 8) xc) (tn + 12) xd)))]) hP hD [0, 1] [] rfl rfl (by decide) (by decide) hk1 hFc hP1 hD1
    have hP := hP.sub (ws' := [(h, .inr (1, [.ref qt, .int (nI tn), .ref qk, .ref qs, .ref qm, .int hs])), (qt, .inl (cT, 2000, .inl (ks_wr (ks_wr (ks_wr (ks_wr ft tn xa) (tn + 4) xb) (tn + 8) xc) (tn + 12) xd)))]) [0, 1] rfl
    have hD := hD.sub (ws' := [(h, .inr (1, [.ref qt, .int (nI tn), .ref qk, .ref qs, .ref qm, .int hs])), (qt, .inl (cT, 2000, .inl (ks_wr (ks_wr (ks_wr (ks_wr ft tn xa) (tn + 4) xb) (tn + 8) xc) (tn + 12) xd)))]) [0, 1] (by decide) rfl
    generalize H1 = H at hP hS ⊢
    have hP : va_P (dC, dI) vwCl [(h, .inr (1, [.ref qt, .int (nI tn), .ref qk, .ref qs, .ref qm, .int hs])), (qt, .inl (cT, 2000, .inl (ks_wr (ks_wr (ks_wr (ks_wr ft tn xa) (tn + 4) xb) (tn + 8) xc) (tn + 12) xd)))] H := hP
    have hD : va_D A [(h, .inr (1, [.ref qt, .int (nI tn), .ref qk, .ref qs, .ref qm, .int hs])), (qt, .inl (cT, 2000, .inl (ks_wr (ks_wr (ks_wr (ks_wr ft tn xa) (tn + 4) xb) (tn + 8) xc) (tn + 12) xd)))] := hD
    refine lv_aload_n hx hb dX1_feed_57 rfl (lv_at hl 0 rfl) ?_
    refine lv_aload_n hx hb dX1_feed_58 rfl (lv_at hl 0 rfl) ?_
    refine va_get (D := (dC, dI)) (ci := 1) (v := .int (nI tn)) (C := RX1) (T := TX1) (N := 6) hx hb hts (by decide +kernel) hown hK hP 0 rfl rfl 1 (by decide) (hts (.fieldLink RX1 13 "KeySums" "tapeSize" "I") (by decide +kernel)) (fun _ h9 => h9) rfl dX1_feed_59 ?_
    refine lv_bipush (v := 16) hx hb dX1_feed_62 (by decide) ?_
    refine lv_iadd hx hb dX1_feed_64 ?_
    refine kz_top (y := nI (tn + 16)) (nI_add tn 16) ?_
    refine lv_iload hx hb dX1_feed_65 (lv_at hl 5 rfl) ?_
    have ho4 : (tn + 16) + 4 ≤ 2000 := by omega
    have hPc := hP.sub (ws' := [(h, .inr (1, [.ref qt, .int (nI tn), .ref qk, .ref qs, .ref qm, .int hs])), (qt, .inl (cT, 2000, .inl (ks_wr (ks_wr (ks_wr (ks_wr ft tn xa) (tn + 4) xb) (tn + 8) xc) (tn + 12) xd)))]) [0, 1] rfl
    have hDc := hD.sub (ws' := [(h, .inr (1, [.ref qt, .int (nI tn), .ref qk, .ref qs, .ref qm, .int hs])), (qt, .inl (cT, 2000, .inl (ks_wr (ks_wr (ks_wr (ks_wr ft tn xa) (tn + 4) xb) (tn + 8) xc) (tn + 12) xd)))]) [0, 1] (by decide) rfl
    have hKc := hK.sub (tys' := [(cT, .byte)]) [0] rfl
    have hFc := va_free (wc := [(h, .inr (1, [.ref qt, .int (nI tn), .ref qk, .ref qs, .ref qm, .int hs])), (qt, .inl (cT, 2000, .inl (ks_wr (ks_wr (ks_wr (ks_wr ft tn xa) (tn + 4) xb) (tn + 8) xc) (tn + 12) xd)))]) hD hS hA [0, 1] rfl
    refine va_callv (va_runV (As := [.int (nI (tn + 16)), .int xe]) (rest := []) ⟨hx, hb, hml, hown, hts⟩ (c_writeNumber l dC dI H.size h qt qk qs qm cT (nI tn) hs (ks_wr (ks_wr (ks_wr (ks_wr ft tn xa) (tn + 4) xb) (tn + 8) xc) (tn + 12) xd) (tn + 16) xe ho4) (cwV 2 hts gX1_feed_X1_writeNumber rfl rfl rfl (by decide +kernel) ⟨Nat.le_of_ble_eq_true rfl, Nat.le_of_ble_eq_true rfl⟩) ⟨fun a U g mk q => by obtain ⟨q0, q1, qP, qK, qD⟩ := q; exact ⟨q0, q1, qP, va_K.moved (u := U) (U := U.calling g mk a) (Vm.Alike.refl U.vm) qK, qD⟩, va_recv hKc hPc (ci := 1) (q0 := 0) rfl rfl, fun U hU hW => ⟨rfl, by rw [hU], by rw [hU]; exact hPc, va_K.moved hW.alike hKc, hDc.weaken (fun _ _ _ _ => trivial)⟩⟩ rfl rfl hl.1 rfl (lv_room (Nat.le_of_ble_eq_true rfl)) dX1_feed_67 ⟨Nat.zero_le _, Nat.zero_le _⟩) hS (fun q _ h => hFc q h) hFc (fun u t H1 locs ht hvm hw hB hz1 hk1 hS => ?_)
    obtain ⟨hP1, hK1, hD1⟩ := hB
    rw [ht] at hP1
    have hK1 := va_K.moved hvm.symm hK1
    try dsimp only at hw
    obtain ⟨hP, hD⟩ := va_join (wr := []) (w1 := [(h, .inr (1, [.ref qt, .int (nI tn), .ref qk, .ref qs, .ref qm, .int hs])), (qt, .inl (cT, 2000, .inl (ks_wr (ks_wr (ks_wr (ks_wr (ks_wr ft tn xa) (tn + 4) xb) (tn + 8) xc) (tn + 12) xd) (tn + 16) xe)))]) hP hD [0, 1] [] rfl rfl (by decide) (by decide) hk1 hFc hP1 hD1
    have hP := hP.sub (ws' := [(h, .inr (1, [.ref qt, .int (nI tn), .ref qk, .ref qs, .ref qm, .int hs])), (qt, .inl (cT, 2000, .inl (ks_wr (ks_wr (ks_wr (ks_wr (ks_wr ft tn xa) (tn + 4) xb) (tn + 8) xc) (tn + 12) xd) (tn + 16) xe)))]) [0, 1] rfl
    have hD := hD.sub (ws' := [(h, .inr (1, [.ref qt, .int (nI tn), .ref qk, .ref qs, .ref qm, .int hs])), (qt, .inl (cT, 2000, .inl (ks_wr (ks_wr (ks_wr (ks_wr (ks_wr ft tn xa) (tn + 4) xb) (tn + 8) xc) (tn + 12) xd) (tn + 16) xe)))]) [0, 1] (by decide) rfl
    generalize H1 = H at hP hS ⊢
    have hP : va_P (dC, dI) vwCl [(h, .inr (1, [.ref qt, .int (nI tn), .ref qk, .ref qs, .ref qm, .int hs])), (qt, .inl (cT, 2000, .inl (ks_wr (ks_wr (ks_wr (ks_wr (ks_wr ft tn xa) (tn + 4) xb) (tn + 8) xc) (tn + 12) xd) (tn + 16) xe)))] H := hP
    have hD : va_D A [(h, .inr (1, [.ref qt, .int (nI tn), .ref qk, .ref qs, .ref qm, .int hs])), (qt, .inl (cT, 2000, .inl (ks_wr (ks_wr (ks_wr (ks_wr (ks_wr ft tn xa) (tn + 4) xb) (tn + 8) xc) (tn + 12) xd) (tn + 16) xe)))] := hD
    refine lv_aload_n hx hb dX1_feed_70 rfl (lv_at hl 0 rfl) ?_
    refine lv_dup hx hb dX1_feed_71 rfl ?_
    refine va_get (D := (dC, dI)) (ci := 1) (v := .int (nI tn)) (C := RX1) (T := TX1) (N := 6) hx hb hts (by decide +kernel) hown hK hP 0 rfl rfl 1 (by decide) (hts (.fieldLink RX1 13 "KeySums" "tapeSize" "I") (by decide +kernel)) (fun _ h9 => h9) rfl dX1_feed_72 ?_
    refine lv_bipush (v := 20) hx hb dX1_feed_75 (by decide) ?_
    refine lv_iadd hx hb dX1_feed_77 ?_
    refine kz_top (y := nI (tn + 20)) (nI_add tn 20) ?_
    refine va_put (D := (dC, dI)) (ci := 1) (v := .int (nI (tn + 20))) (ty := .int) (C := RX1) (T := TX1) (N := 6) hx hb hts (by decide +kernel) tyX1 tyX1_ok nmX1 hown hK hP hD hS 0 rfl rfl 1 (by decide) (hts (.fieldLink RX1 13 "KeySums" "tapeSize" "I") (by decide +kernel)) (fun _ h9 => h9) rfl (by decide +kernel) rfl rfl (Nat.le_of_ble_eq_true rfl) dX1_feed_78 (fun H locs hP hD hS => ?_)
    have hP : va_P (dC, dI) vwCl [(h, .inr (1, [.ref qt, .int (nI (tn + 20)), .ref qk, .ref qs, .ref qm, .int hs])), (qt, .inl (cT, 2000, .inl (ks_wr (ks_wr (ks_wr (ks_wr (ks_wr ft tn xa) (tn + 4) xb) (tn + 8) xc) (tn + 12) xd) (tn + 16) xe)))] H := hP
    have hD : va_D A [(h, .inr (1, [.ref qt, .int (nI (tn + 20)), .ref qk, .ref qs, .ref qm, .int hs])), (qt, .inl (cT, 2000, .inl (ks_wr (ks_wr (ks_wr (ks_wr (ks_wr ft tn xa) (tn + 4) xb) (tn + 8) xc) (tn + 12) xd) (tn + 16) xe)))] := hD
    refine lv_iconst (v := 1) hx hb dX1_feed_81 (by decide) ?_
    have hP9 := hP.sub (ws' := [(h, .inr (1, [.ref qt, .int (nI (tn + 20)), .ref qk, .ref qs, .ref qm, .int hs])), (qt, .inl (cT, 2000, .inl (ks_wr (ks_wr (ks_wr (ks_wr (ks_wr ft tn xa) (tn + 4) xb) (tn + 8) xc) (tn + 12) xd) (tn + 16) xe)))]) [0, 1] rfl
    have hD9 := hD.sub (ws' := [(h, .inr (1, [.ref qt, .int (nI (tn + 20)), .ref qk, .ref qs, .ref qm, .int hs])), (qt, .inl (cT, 2000, .inl (ks_wr (ks_wr (ks_wr (ks_wr (ks_wr ft tn xa) (tn + 4) xb) (tn + 8) xc) (tn + 12) xd) (tn + 16) xe)))]) [0, 1] (by decide) rfl
    have hK9 := hK.sub (tys' := [(cT, .byte)]) [0] rfl
    exact W.zret (v := 1) (ty := .boolean) hx hb hr (by rfl) (fun t ht hW => ⟨⟨1, (), rfl, rfl, by rw [ht]; exact hP9, va_K.moved hW.alike hK9, hD9⟩, hS.F ht⟩) hS.2.2 dX1_feed_82
  · skip
    exact absurd (nI_le (a := tn) (b := 1980) h1 (by decide)) hc

set_option maxHeartbeats 4000000 in
set_option maxRecDepth 100000 in
/-- end, refused -/
theorem c_end_no (l : Launch) (dC : Nat → ClassId) (dI : Nat → Nat → Nat) (sz : Nat) (h qt qk qs qm : Nat) (tn : Nat) (hs : Int32) (x : Int32) (h1 : x < 0 ∨ nI tn < x) : Met l yX1_end wsX1_end ({ frames := 0, cells := 0, slots := 0, locals := 0 }) (va_Pc [.ref h, .int x] (fun U => U.heap.size = sz ∧ va_P (dC, dI) vwCl [(h, .inr (1, [.ref qt, .int (nI tn), .ref qk, .ref qs, .ref qm, .int hs]))] U.heap ∧ va_K (dC, dI) vwCl [] U ∧ va_D (fun _ => True) [(h, .inr (1, [.ref qt, .int (nI tn), .ref qk, .ref qs, .ref qm, .int hs]))])) (va_Qi (fun (r : Int32) (_u : Unit) => r = 0) (fun (_u : Unit) t => kz_B dC dI [] (va_A [(h, .inr (1, [.ref qt, .int (nI tn), .ref qk, .ref qs, .ref qm, .int hs]))] sz) [(h, .inr (1, [.ref qt, .int (nI tn), .ref qk, .ref qs, .ref qm, .int hs]))] t) (va_A [(h, .inr (1, [.ref qt, .int (nI tn), .ref qk, .ref qs, .ref qm, .int hs]))] sz)) 0 0 (va_A [(h, .inr (1, [.ref qt, .int (nI tn), .ref qk, .ref qs, .ref qm, .int hs]))] sz) := by
  refine Met.ofW (cc := cX1_end) (maxL := 2) (ret := (some .boolean)) (by decide) rfl ?_
  intro p e s m args below meth c s₁ B hml hv
  obtain ⟨rfl, hsz, hP, hK, hD0⟩ := hv
  have hx := B.exec
  have hb := B.bytes
  have hr := B.returns
  have hts := atoms_spec (ws := wsX1_end) B.pre
  have hown : s.vm.findClass RX1 = some m.cls := findClass_of_methodNamed B.named
  have hlocks := B.notSynchronized
  subst hsz
  have hD := hD0.self (sz := s.heap.size)
  generalize hAe : va_A [(h, .inr (1, [.ref qt, .int (nI tn), .ref qk, .ref qs, .ref qm, .int hs]))] s.heap.size = A at hD  ⊢
  have hA : ∀ q : Nat, s.heap.size ≤ q → A q := fun q h => by rw [← hAe]; exact Or.inr h
  have hS : va_S A s.heap s.heap [] := va_S.rf
  have hP : va_P (dC, dI) vwCl [(h, .inr (1, [.ref qt, .int (nI tn), .ref qk, .ref qs, .ref qm, .int hs]))] s.heap := hP
  have hl := lv_entry ([.ref h, .int x]) (n := 2) (Nat.le_of_ble_eq_true rfl)
  rw [lg_entry_eq]
  generalize (lg_sl ([.ref h, .int x]) ++ List.replicate (2 - (lg_sl ([.ref h, .int x])).length) Slot.unset).toArray = ls at hl ⊢
  have hl : lv_has ls 2 [(0, .ref h), (1, .int x)] := hl
  refine lv_iload_n hx hb dX1_end_0 rfl (lv_at hl 1 rfl) ?_
  refine lv_if_lt (tgt := 12) hx hb dX1_end_1 (by decide) (fun hc => ?_) (fun hc => ?_)
  · skip
    refine lv_iconst (v := 0) hx hb dX1_end_12 (by decide) ?_
    have hP9 := hP.sub (ws' := [(h, .inr (1, [.ref qt, .int (nI tn), .ref qk, .ref qs, .ref qm, .int hs]))]) [0] rfl
    have hD9 := hD.sub (ws' := [(h, .inr (1, [.ref qt, .int (nI tn), .ref qk, .ref qs, .ref qm, .int hs]))]) [0] (by decide) rfl
    have hK9 := hK.sub (tys' := []) [] rfl
    exact W.zret (v := 0) (ty := .boolean) hx hb hr (by rfl) (fun t ht hW => ⟨⟨0, (), rfl, rfl, by rw [ht]; exact hP9, va_K.moved hW.alike hK9, hD9⟩, hS.F ht⟩) hS.2.2 dX1_end_13
  · skip
    refine lv_iload_n hx hb dX1_end_4 rfl (lv_at hl 1 rfl) ?_
    refine lv_aload_n hx hb dX1_end_5 rfl (lv_at hl 0 rfl) ?_
    refine va_get (D := (dC, dI)) (ci := 1) (v := .int (nI tn)) (C := RX1) (T := TX1) (N := 6) hx hb hts (by decide +kernel) hown hK hP 0 rfl rfl 1 (by decide) (hts (.fieldLink RX1 13 "KeySums" "tapeSize" "I") (by decide +kernel)) (fun _ h9 => h9) rfl dX1_end_6 ?_
    refine lv_icmp_le (tgt := 14) hx hb dX1_end_9 (by decide) (fun hc => ?_) (fun hc => ?_)
    · skip
      exact absurd hc (h1.elim (fun q => absurd q (by assumption)) (fun q => Int32.not_le.mpr q))
    · skip
      refine lv_iconst (v := 0) hx hb dX1_end_12 (by decide) ?_
      have hP9 := hP.sub (ws' := [(h, .inr (1, [.ref qt, .int (nI tn), .ref qk, .ref qs, .ref qm, .int hs]))]) [0] rfl
      have hD9 := hD.sub (ws' := [(h, .inr (1, [.ref qt, .int (nI tn), .ref qk, .ref qs, .ref qm, .int hs]))]) [0] (by decide) rfl
      have hK9 := hK.sub (tys' := []) [] rfl
      exact W.zret (v := 0) (ty := .boolean) hx hb hr (by rfl) (fun t ht hW => ⟨⟨0, (), rfl, rfl, by rw [ht]; exact hP9, va_K.moved hW.alike hK9, hD9⟩, hS.F ht⟩) hS.2.2 dX1_end_13

set_option maxHeartbeats 4000000 in
set_option maxRecDepth 100000 in
/-- end -/
theorem c_end_ok (l : Launch) (dC : Nat → ClassId) (dI : Nat → Nat → Nat) (sz : Nat) (h qt qk qs qm : Nat) (tn : Nat) (hs : Int32) (k : Nat) (h1 : k ≤ tn) (h2 : tn ≤ 2000) : Met l yX1_end wsX1_end ({ frames := 0, cells := 0, slots := 0, locals := 0 }) (va_Pc [.ref h, .int (nI k)] (fun U => U.heap.size = sz ∧ va_P (dC, dI) vwCl [(h, .inr (1, [.ref qt, .int (nI tn), .ref qk, .ref qs, .ref qm, .int hs]))] U.heap ∧ va_K (dC, dI) vwCl [] U ∧ va_D (fun _ => True) [(h, .inr (1, [.ref qt, .int (nI tn), .ref qk, .ref qs, .ref qm, .int hs]))])) (va_Qi (fun (r : Int32) (_u : Unit) => r = 1) (fun (_u : Unit) t => kz_B dC dI [] (va_A [(h, .inr (1, [.ref qt, .int (nI tn), .ref qk, .ref qs, .ref qm, .int hs]))] sz) [(h, .inr (1, [.ref qt, .int (nI k), .ref qk, .ref qs, .ref qm, .int hs]))] t) (va_A [(h, .inr (1, [.ref qt, .int (nI tn), .ref qk, .ref qs, .ref qm, .int hs]))] sz)) 0 0 (va_A [(h, .inr (1, [.ref qt, .int (nI tn), .ref qk, .ref qs, .ref qm, .int hs]))] sz) := by
  refine Met.ofW (cc := cX1_end) (maxL := 2) (ret := (some .boolean)) (by decide) rfl ?_
  intro p e s m args below meth c s₁ B hml hv
  obtain ⟨rfl, hsz, hP, hK, hD0⟩ := hv
  have hx := B.exec
  have hb := B.bytes
  have hr := B.returns
  have hts := atoms_spec (ws := wsX1_end) B.pre
  have hown : s.vm.findClass RX1 = some m.cls := findClass_of_methodNamed B.named
  have hlocks := B.notSynchronized
  subst hsz
  have hD := hD0.self (sz := s.heap.size)
  generalize hAe : va_A [(h, .inr (1, [.ref qt, .int (nI tn), .ref qk, .ref qs, .ref qm, .int hs]))] s.heap.size = A at hD  ⊢
  have hA : ∀ q : Nat, s.heap.size ≤ q → A q := fun q h => by rw [← hAe]; exact Or.inr h
  have hS : va_S A s.heap s.heap [] := va_S.rf
  have hP : va_P (dC, dI) vwCl [(h, .inr (1, [.ref qt, .int (nI tn), .ref qk, .ref qs, .ref qm, .int hs]))] s.heap := hP
  have hl := lv_entry ([.ref h, .int (nI k)]) (n := 2) (Nat.le_of_ble_eq_true rfl)
  rw [lg_entry_eq]
  generalize (lg_sl ([.ref h, .int (nI k)]) ++ List.replicate (2 - (lg_sl ([.ref h, .int (nI k)])).length) Slot.unset).toArray = ls at hl ⊢
  have hl : lv_has ls 2 [(0, .ref h), (1, .int (nI k))] := hl
  refine lv_iload_n hx hb dX1_end_0 rfl (lv_at hl 1 rfl) ?_
  refine lv_if_lt (tgt := 12) hx hb dX1_end_1 (by decide) (fun hc => ?_) (fun hc => ?_)
  · skip
    exact absurd hc (nI_pos (n := k) (by omega))
  · skip
    refine lv_iload_n hx hb dX1_end_4 rfl (lv_at hl 1 rfl) ?_
    refine lv_aload_n hx hb dX1_end_5 rfl (lv_at hl 0 rfl) ?_
    refine va_get (D := (dC, dI)) (ci := 1) (v := .int (nI tn)) (C := RX1) (T := TX1) (N := 6) hx hb hts (by decide +kernel) hown hK hP 0 rfl rfl 1 (by decide) (hts (.fieldLink RX1 13 "KeySums" "tapeSize" "I") (by decide +kernel)) (fun _ h9 => h9) rfl dX1_end_6 ?_
    refine lv_icmp_le (tgt := 14) hx hb dX1_end_9 (by decide) (fun hc => ?_) (fun hc => ?_)
    · skip
      refine lv_aload_n hx hb dX1_end_14 rfl (lv_at hl 0 rfl) ?_
      refine lv_iload_n hx hb dX1_end_15 rfl (lv_at hl 1 rfl) ?_
      refine va_put (D := (dC, dI)) (ci := 1) (v := .int (nI k)) (ty := .int) (C := RX1) (T := TX1) (N := 6) hx hb hts (by decide +kernel) tyX1 tyX1_ok nmX1 hown hK hP hD hS 0 rfl rfl 1 (by decide) (hts (.fieldLink RX1 13 "KeySums" "tapeSize" "I") (by decide +kernel)) (fun _ h9 => h9) rfl (by decide +kernel) rfl rfl (Nat.le_of_ble_eq_true rfl) dX1_end_16 (fun H locs hP hD hS => ?_)
      have hP : va_P (dC, dI) vwCl [(h, .inr (1, [.ref qt, .int (nI k), .ref qk, .ref qs, .ref qm, .int hs]))] H := hP
      have hD : va_D A [(h, .inr (1, [.ref qt, .int (nI k), .ref qk, .ref qs, .ref qm, .int hs]))] := hD
      refine lv_iconst (v := 1) hx hb dX1_end_19 (by decide) ?_
      have hP9 := hP.sub (ws' := [(h, .inr (1, [.ref qt, .int (nI k), .ref qk, .ref qs, .ref qm, .int hs]))]) [0] rfl
      have hD9 := hD.sub (ws' := [(h, .inr (1, [.ref qt, .int (nI k), .ref qk, .ref qs, .ref qm, .int hs]))]) [0] (by decide) rfl
      have hK9 := hK.sub (tys' := []) [] rfl
      exact W.zret (v := 1) (ty := .boolean) hx hb hr (by rfl) (fun t ht hW => ⟨⟨1, (), rfl, rfl, by rw [ht]; exact hP9, va_K.moved hW.alike hK9, hD9⟩, hS.F ht⟩) hS.2.2 dX1_end_20
    · skip
      exact absurd (nI_le h1 (by omega)) hc
