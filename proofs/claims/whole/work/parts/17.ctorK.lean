set_option maxHeartbeats 4000000 in
set_option maxRecDepth 100000 in
/-- KeySums() -/
theorem c_Kinit (l : Launch) (dC : Nat → ClassId) (dI : Nat → Nat → Nat) (sz : Nat) (h : Nat) : Met l yX1_init wsX1_init ({ frames := 2, cells := 5, slots := 2042, locals := 60 }) (va_Pc [.ref h] (fun U => U.heap.size = sz ∧ va_P (dC, dI) vwCl [(h, .inr (1, [.null, .int 0, .null, .null, .null, .int 0]))] U.heap ∧ va_K (dC, dI) vwCl [] U ∧ va_D (fun _ => True) [(h, .inr (1, [.null, .int 0, .null, .null, .null, .int 0]))] ∧ ks_nw U)) (va_Qv (fun _u : Unit => True) (fun (_u : Unit) t => ∃ (qt qk qs qw qm : Nat) (cT cK cW cM : ClassId), kz_B dC dI [(cT, .byte), (cK, .byte), (cW, .int), (cM, .int)] (va_A [(h, .inr (1, [.null, .int 0, .null, .null, .null, .int 0]))] sz) [(h, .inr (1, [.ref qt, .int (nI 0), .ref qk, .ref qs, .ref qm, .int 0])), (qt, .inl (cT, 2000, .inl (fun _ => 0))), (qk, .inl (cK, 16, .inl (fun _ => 0))), (qs, .inr (0, [.ref qw, .int (nI 0), .int 1732584193, .int (-271733879), .int (-1732584194), .int 271733878])), (qw, .inl (cW, 16, .inl (fun _ => 0))), (qm, .inl (cM, 4, .inl (fun _ => 0)))] t) (va_A [(h, .inr (1, [.null, .int 0, .null, .null, .null, .int 0]))] sz)) 5 2042 (va_A [(h, .inr (1, [.null, .int 0, .null, .null, .null, .int 0]))] sz) := by
  refine Met.ofW (cc := cX1_init) (maxL := 1) (ret := none) (by decide) rfl ?_
  intro p e s m args below meth c s₁ B hml hv
  obtain ⟨rfl, hsz, hP, hK, hD0, hN⟩ := hv
  have hx := B.exec
  have hb := B.bytes
  have hr := B.returns
  have hts := atoms_spec (ws := wsX1_init) B.pre
  have hown : s.vm.findClass RX1 = some m.cls := findClass_of_methodNamed B.named
  have hlocks := B.notSynchronized
  have hin : meth.name = "<init>" := (name_of_methodNamed B.named B.method).1
  subst hsz
  have hD := hD0.self (sz := s.heap.size)
  generalize hAe : va_A [(h, .inr (1, [.null, .int 0, .null, .null, .null, .int 0]))] s.heap.size = A at hD  ⊢
  have hA : ∀ q : Nat, s.heap.size ≤ q → A q := fun q h => by rw [← hAe]; exact Or.inr h
  have hS : va_S A s.heap s.heap [] := va_S.rf
  have hP : va_P (dC, dI) vwCl [(h, .inr (1, [.null, .int 0, .null, .null, .null, .int 0]))] s.heap := hP
  have hl := lv_entry ([.ref h]) (n := 1) (Nat.le_of_ble_eq_true rfl)
  rw [lg_entry_eq]
  generalize (lg_sl ([.ref h]) ++ List.replicate (1 - (lg_sl ([.ref h])).length) Slot.unset).toArray = ls at hl ⊢
  have hl : lv_has ls 1 [(0, .ref h)] := hl
  refine lv_aload_n hx hb dX1_init_0 rfl (lv_at hl 0 rfl) ?_
  refine W.objInit hx hb hown (hts (.methodLink RX1 1 objectInit) (by decide +kernel)) (hts (.instanceMethod objectInit) (by decide +kernel)) (hts _ (List.mem_cons_of_mem _ (List.mem_append_left _ (List.mem_append_left _ (List.mem_append_left _ (List.mem_of_getElem? (i := 2) rfl)))))) rfl (by rw [hml]; exact hl.1) rfl dX1_init_1 (Nat.le_of_ble_eq_true rfl) (Nat.le_of_ble_eq_true rfl) ?_
  refine W.eq (g2 := F0 m 4 ls []) rfl ?_
  refine lv_aload_n hx hb dX1_init_4 rfl (lv_at hl 0 rfl) ?_
  refine lv_sipush (v := 2000) hx hb dX1_init_5 (by decide) ?_
  refine va_newa (atype := .byte) (ty := .byte) (N' := 2000) (a0 := (2000, .inl (fun _ => 0))) hx hb (hts (.arrayClass .byte) (by decide +kernel)) rfl hK hP hD hS hA (fun cA => rfl) (by decide +kernel) (by decide +kernel) (by decide +kernel) (Nat.le_of_ble_eq_true rfl) (Nat.le_of_ble_eq_true rfl) dX1_init_8 (fun qt cT H hK hP hD hS => ?_)
  have hP : va_P (dC, dI) vwCl [(h, .inr (1, [.null, .int 0, .null, .null, .null, .int 0])), (qt, .inl (cT, 2000, .inl (fun _ => 0)))] H := hP
  have hD : va_D A [(h, .inr (1, [.null, .int 0, .null, .null, .null, .int 0])), (qt, .inl (cT, 2000, .inl (fun _ => 0)))] := hD
  have hK : va_K (dC, dI) vwCl [(cT, .byte)] s := hK
  refine W.widen (k := 1) (n := 2000) (Nat.le_of_ble_eq_true rfl) (Nat.le_of_ble_eq_true rfl) ?_
  refine va_putF (D := (dC, dI)) (ci := 1) (v := .ref qt) (ty := .array .byte) (C := RX1) (T := TX1) (N := 6) hx hb hts (by decide +kernel) tyX1 tyX1_ok nmX1 hown hK hP hD hS 0 rfl rfl 0 (by decide) (hts (.fieldLink RX1 9 "KeySums" "tape" "[B") (by decide +kernel)) (fun _ h9 => h9) rfl hin rfl (by decide +kernel) rfl rfl (Nat.le_of_ble_eq_true rfl) dX1_init_10 (fun H locs hP hD hS => ?_)
  have hP : va_P (dC, dI) vwCl [(h, .inr (1, [.ref qt, .int 0, .null, .null, .null, .int 0])), (qt, .inl (cT, 2000, .inl (fun _ => 0)))] H := hP
  have hD : va_D A [(h, .inr (1, [.ref qt, .int 0, .null, .null, .null, .int 0])), (qt, .inl (cT, 2000, .inl (fun _ => 0)))] := hD
  refine lv_aload_n hx hb dX1_init_13 rfl (lv_at hl 0 rfl) ?_
  refine lv_iconst (v := 0) hx hb dX1_init_14 (by decide) ?_
  refine kz_top (y := nI 0) nI_0.symm ?_
  refine va_put (D := (dC, dI)) (ci := 1) (v := .int (nI 0)) (ty := .int) (C := RX1) (T := TX1) (N := 6) hx hb hts (by decide +kernel) tyX1 tyX1_ok nmX1 hown hK hP hD hS 0 rfl rfl 1 (by decide) (hts (.fieldLink RX1 13 "KeySums" "tapeSize" "I") (by decide +kernel)) (fun _ h9 => h9) rfl (by decide +kernel) rfl rfl (Nat.le_of_ble_eq_true rfl) dX1_init_15 (fun H locs hP hD hS => ?_)
  have hP : va_P (dC, dI) vwCl [(h, .inr (1, [.ref qt, .int (nI 0), .null, .null, .null, .int 0])), (qt, .inl (cT, 2000, .inl (fun _ => 0)))] H := hP
  have hD : va_D A [(h, .inr (1, [.ref qt, .int (nI 0), .null, .null, .null, .int 0])), (qt, .inl (cT, 2000, .inl (fun _ => 0)))] := hD
  refine lv_aload_n hx hb dX1_init_18 rfl (lv_at hl 0 rfl) ?_
  refine lv_bipush (v := 16) hx hb dX1_init_19 (by decide) ?_
  refine va_newa (atype := .byte) (ty := .byte) (N' := 16) (a0 := (16, .inl (fun _ => 0))) hx hb (hts (.arrayClass .byte) (by decide +kernel)) rfl hK hP hD hS hA (fun cA => rfl) (by decide +kernel) (by decide +kernel) (by decide +kernel) (Nat.le_of_ble_eq_true rfl) (Nat.le_of_ble_eq_true rfl) dX1_init_21 (fun qk cK H hK hP hD hS => ?_)
  have hP : va_P (dC, dI) vwCl [(h, .inr (1, [.ref qt, .int (nI 0), .null, .null, .null, .int 0])), (qt, .inl (cT, 2000, .inl (fun _ => 0))), (qk, .inl (cK, 16, .inl (fun _ => 0)))] H := hP
  have hD : va_D A [(h, .inr (1, [.ref qt, .int (nI 0), .null, .null, .null, .int 0])), (qt, .inl (cT, 2000, .inl (fun _ => 0))), (qk, .inl (cK, 16, .inl (fun _ => 0)))] := hD
  have hK : va_K (dC, dI) vwCl [(cT, .byte), (cK, .byte)] s := hK
  refine W.widen (k := 2) (n := 2016) (Nat.le_of_ble_eq_true rfl) (Nat.le_of_ble_eq_true rfl) ?_
  refine va_putF (D := (dC, dI)) (ci := 1) (v := .ref qk) (ty := .array .byte) (C := RX1) (T := TX1) (N := 6) hx hb hts (by decide +kernel) tyX1 tyX1_ok nmX1 hown hK hP hD hS 0 rfl rfl 2 (by decide) (hts (.fieldLink RX1 17 "KeySums" "keyBytes" "[B") (by decide +kernel)) (fun _ h9 => h9) rfl hin rfl (by decide +kernel) rfl rfl (Nat.le_of_ble_eq_true rfl) dX1_init_23 (fun H locs hP hD hS => ?_)
  have hP : va_P (dC, dI) vwCl [(h, .inr (1, [.ref qt, .int (nI 0), .ref qk, .null, .null, .int 0])), (qt, .inl (cT, 2000, .inl (fun _ => 0))), (qk, .inl (cK, 16, .inl (fun _ => 0)))] H := hP
  have hD : va_D A [(h, .inr (1, [.ref qt, .int (nI 0), .ref qk, .null, .null, .int 0])), (qt, .inl (cT, 2000, .inl (fun _ => 0))), (qk, .inl (cK, 16, .inl (fun _ => 0)))] := hD
  refine lv_aload_n hx hb dX1_init_26 rfl (lv_at hl 0 rfl) ?_
  refine va_new (ci := 0) (fs := [.null, .int 0, .int 0, .int 0, .int 0, .int 0]) (C := RX0) (T := TX0) (N := 6) hx hb hts (by decide +kernel) tyX0 tyX0_ok hown (hts (.classLink RX1 20 RX0) (by decide +kernel)) (hts (.instantiable RX0 6) (by decide +kernel)) (hts (.initialized RX0) (by decide +kernel)) hK hP hD hS hA rfl (fun j hj => by rcases (show j = 0 ∨ j = 1 ∨ j = 2 ∨ j = 3 ∨ j = 4 ∨ j = 5 by omega) with rfl | rfl | rfl | rfl | rfl | rfl <;> rfl) (Nat.le_of_ble_eq_true rfl) (Nat.le_of_ble_eq_true rfl) dX1_init_27 (fun qs H hP hD hS => ?_)
  have hP : va_P (dC, dI) vwCl [(h, .inr (1, [.ref qt, .int (nI 0), .ref qk, .null, .null, .int 0])), (qt, .inl (cT, 2000, .inl (fun _ => 0))), (qk, .inl (cK, 16, .inl (fun _ => 0))), (qs, .inr (0, [.null, .int 0, .int 0, .int 0, .int 0, .int 0]))] H := hP
  have hD : va_D A [(h, .inr (1, [.ref qt, .int (nI 0), .ref qk, .null, .null, .int 0])), (qt, .inl (cT, 2000, .inl (fun _ => 0))), (qk, .inl (cK, 16, .inl (fun _ => 0))), (qs, .inr (0, [.null, .int 0, .int 0, .int 0, .int 0, .int 0]))] := hD
  refine W.widen (k := 3) (n := 2022) (Nat.le_of_ble_eq_true rfl) (Nat.le_of_ble_eq_true rfl) ?_
  refine lv_dup hx hb dX1_init_30 rfl ?_
  have hPc := hP.sub (ws' := [(qs, .inr (0, [.null, .int 0, .int 0, .int 0, .int 0, .int 0]))]) [3] rfl
  have hDc := hD.sub (ws' := [(qs, .inr (0, [.null, .int 0, .int 0, .int 0, .int 0, .int 0]))]) [3] (by decide) rfl
  have hKc := hK.sub (tys' := []) [] rfl
  have hFc := va_free (wc := [(qs, .inr (0, [.null, .int 0, .int 0, .int 0, .int 0, .int 0]))]) hD hS hA [3] rfl
  refine va_callv (va_runIN (As := []) (rest := [.ref qs, .ref h]) ⟨hx, hb, hml, hown, hts⟩ (c_Sinit l dC dI H.size qs) ⟨va_cnB 0 hts gX1_init_X0_init_n22 rfl rfl rfl hN.2.2.2.2.2.1 (hts (.initialized RX0) (by decide +kernel)) (by decide +kernel) ⟨Nat.le_of_ble_eq_true rfl, Nat.le_of_ble_eq_true rfl⟩, rfl, hts (.instanceMethod yX0_init) (by decide +kernel)⟩ ⟨fun a U g mk q => by obtain ⟨q0, q1, qP, qK, qD⟩ := q; exact ⟨q0, q1, qP, va_K.moved (u := U) (U := U.calling g mk a) (Vm.Alike.refl U.vm) qK, qD⟩, fun U hU hW => ⟨rfl, by rw [hU], by rw [hU]; exact hPc, va_K.moved hW.alike hKc, hDc.weaken (fun _ _ _ _ => trivial)⟩⟩ rfl rfl hl.1 rfl (lv_room (Nat.le_of_ble_eq_true rfl)) dX1_init_31 ⟨Nat.le_of_ble_eq_true rfl, Nat.le_of_ble_eq_true rfl⟩) hS (fun q _ h => hFc q h) hFc (fun u t H1 locs ht hvm hw hB hz1 hk1 hS => ?_)
  obtain ⟨qw, cW, hP1, hK1, hD1⟩ := hB
  rw [ht] at hP1
  have hK1 := va_K.moved hvm.symm hK1
  try dsimp only at hw
  obtain ⟨hP, hD⟩ := va_join (wr := [(h, .inr (1, [.ref qt, .int (nI 0), .ref qk, .null, .null, .int 0])), (qt, .inl (cT, 2000, .inl (fun _ => 0))), (qk, .inl (cK, 16, .inl (fun _ => 0)))]) (w1 := [(qs, .inr (0, [.ref qw, .int (nI 0), .int 1732584193, .int (-271733879), .int (-1732584194), .int 271733878])), (qw, .inl (cW, 16, .inl (fun _ => 0)))]) hP hD [3] [0, 1, 2] rfl rfl (by decide) (by decide) hk1 hFc hP1 hD1
  have hK := (hK.sub (tys' := [(cT, .byte), (cK, .byte)]) [0, 1] rfl).app hK1
  generalize H1 = H at hP hS ⊢
  have hP : va_P (dC, dI) vwCl [(h, .inr (1, [.ref qt, .int (nI 0), .ref qk, .null, .null, .int 0])), (qt, .inl (cT, 2000, .inl (fun _ => 0))), (qk, .inl (cK, 16, .inl (fun _ => 0))), (qs, .inr (0, [.ref qw, .int (nI 0), .int 1732584193, .int (-271733879), .int (-1732584194), .int 271733878])), (qw, .inl (cW, 16, .inl (fun _ => 0)))] H := hP
  have hD : va_D A [(h, .inr (1, [.ref qt, .int (nI 0), .ref qk, .null, .null, .int 0])), (qt, .inl (cT, 2000, .inl (fun _ => 0))), (qk, .inl (cK, 16, .inl (fun _ => 0))), (qs, .inr (0, [.ref qw, .int (nI 0), .int 1732584193, .int (-271733879), .int (-1732584194), .int 271733878])), (qw, .inl (cW, 16, .inl (fun _ => 0)))] := hD
  have hK : va_K (dC, dI) vwCl [(cT, .byte), (cK, .byte), (cW, .int)] s := hK
  refine W.widen (k := 4) (n := 2038) (Nat.le_of_ble_eq_true rfl) (Nat.le_of_ble_eq_true rfl) ?_
  refine va_putF (D := (dC, dI)) (ci := 1) (v := .ref qs) (ty := .object "KeySums$Summer") (C := RX1) (T := TX1) (N := 6) hx hb hts (by decide +kernel) tyX1 tyX1_ok nmX1 hown hK hP hD hS 0 rfl rfl 3 (by decide) (hts (.fieldLink RX1 23 "KeySums" "summer" "LKeySums$Summer;") (by decide +kernel)) (fun _ h9 => h9) rfl hin rfl (by decide +kernel) rfl rfl (Nat.le_of_ble_eq_true rfl) dX1_init_34 (fun H locs hP hD hS => ?_)
  have hP : va_P (dC, dI) vwCl [(h, .inr (1, [.ref qt, .int (nI 0), .ref qk, .ref qs, .null, .int 0])), (qt, .inl (cT, 2000, .inl (fun _ => 0))), (qk, .inl (cK, 16, .inl (fun _ => 0))), (qs, .inr (0, [.ref qw, .int (nI 0), .int 1732584193, .int (-271733879), .int (-1732584194), .int 271733878])), (qw, .inl (cW, 16, .inl (fun _ => 0)))] H := hP
  have hD : va_D A [(h, .inr (1, [.ref qt, .int (nI 0), .ref qk, .ref qs, .null, .int 0])), (qt, .inl (cT, 2000, .inl (fun _ => 0))), (qk, .inl (cK, 16, .inl (fun _ => 0))), (qs, .inr (0, [.ref qw, .int (nI 0), .int 1732584193, .int (-271733879), .int (-1732584194), .int 271733878])), (qw, .inl (cW, 16, .inl (fun _ => 0)))] := hD
  refine lv_aload_n hx hb dX1_init_37 rfl (lv_at hl 0 rfl) ?_
  refine lv_iconst (v := 4) hx hb dX1_init_38 (by decide) ?_
  refine va_newa (atype := .int) (ty := .int) (N' := 4) (a0 := (4, .inl (fun _ => 0))) hx hb (hts (.arrayClass .int) (by decide +kernel)) rfl hK hP hD hS hA (fun cA => rfl) (by decide +kernel) (by decide +kernel) (by decide +kernel) (Nat.le_of_ble_eq_true rfl) (Nat.le_of_ble_eq_true rfl) dX1_init_39 (fun qm cM H hK hP hD hS => ?_)
  have hP : va_P (dC, dI) vwCl [(h, .inr (1, [.ref qt, .int (nI 0), .ref qk, .ref qs, .null, .int 0])), (qt, .inl (cT, 2000, .inl (fun _ => 0))), (qk, .inl (cK, 16, .inl (fun _ => 0))), (qs, .inr (0, [.ref qw, .int (nI 0), .int 1732584193, .int (-271733879), .int (-1732584194), .int 271733878])), (qw, .inl (cW, 16, .inl (fun _ => 0))), (qm, .inl (cM, 4, .inl (fun _ => 0)))] H := hP
  have hD : va_D A [(h, .inr (1, [.ref qt, .int (nI 0), .ref qk, .ref qs, .null, .int 0])), (qt, .inl (cT, 2000, .inl (fun _ => 0))), (qk, .inl (cK, 16, .inl (fun _ => 0))), (qs, .inr (0, [.ref qw, .int (nI 0), .int 1732584193, .int (-271733879), .int (-1732584194), .int 271733878])), (qw, .inl (cW, 16, .inl (fun _ => 0))), (qm, .inl (cM, 4, .inl (fun _ => 0)))] := hD
  have hK : va_K (dC, dI) vwCl [(cT, .byte), (cK, .byte), (cW, .int), (cM, .int)] s := hK
  refine W.widen (k := 5) (n := 2042) (Nat.le_of_ble_eq_true rfl) (Nat.le_of_ble_eq_true rfl) ?_
  refine va_putF (D := (dC, dI)) (ci := 1) (v := .ref qm) (ty := .array .int) (C := RX1) (T := TX1) (N := 6) hx hb hts (by decide +kernel) tyX1 tyX1_ok nmX1 hown hK hP hD hS 0 rfl rfl 4 (by decide) (hts (.fieldLink RX1 27 "KeySums" "keptSum" "[I") (by decide +kernel)) (fun _ h9 => h9) rfl hin rfl (by decide +kernel) rfl rfl (Nat.le_of_ble_eq_true rfl) dX1_init_41 (fun H locs hP hD hS => ?_)
  have hP : va_P (dC, dI) vwCl [(h, .inr (1, [.ref qt, .int (nI 0), .ref qk, .ref qs, .ref qm, .int 0])), (qt, .inl (cT, 2000, .inl (fun _ => 0))), (qk, .inl (cK, 16, .inl (fun _ => 0))), (qs, .inr (0, [.ref qw, .int (nI 0), .int 1732584193, .int (-271733879), .int (-1732584194), .int 271733878])), (qw, .inl (cW, 16, .inl (fun _ => 0))), (qm, .inl (cM, 4, .inl (fun _ => 0)))] H := hP
  have hD : va_D A [(h, .inr (1, [.ref qt, .int (nI 0), .ref qk, .ref qs, .ref qm, .int 0])), (qt, .inl (cT, 2000, .inl (fun _ => 0))), (qk, .inl (cK, 16, .inl (fun _ => 0))), (qs, .inr (0, [.ref qw, .int (nI 0), .int 1732584193, .int (-271733879), .int (-1732584194), .int 271733878])), (qw, .inl (cW, 16, .inl (fun _ => 0))), (qm, .inl (cM, 4, .inl (fun _ => 0)))] := hD
  refine lv_aload_n hx hb dX1_init_44 rfl (lv_at hl 0 rfl) ?_
  refine lv_iconst (v := 0) hx hb dX1_init_45 (by decide) ?_
  refine va_put (D := (dC, dI)) (ci := 1) (v := .int 0) (ty := .boolean) (C := RX1) (T := TX1) (N := 6) hx hb hts (by decide +kernel) tyX1 tyX1_ok nmX1 hown hK hP hD hS 0 rfl rfl 5 (by decide) (hts (.fieldLink RX1 31 "KeySums" "hasSum" "Z") (by decide +kernel)) (fun _ h9 => h9) rfl (by decide +kernel) rfl rfl (Nat.le_of_ble_eq_true rfl) dX1_init_46 (fun H locs hP hD hS => ?_)
  have hP : va_P (dC, dI) vwCl [(h, .inr (1, [.ref qt, .int (nI 0), .ref qk, .ref qs, .ref qm, .int 0])), (qt, .inl (cT, 2000, .inl (fun _ => 0))), (qk, .inl (cK, 16, .inl (fun _ => 0))), (qs, .inr (0, [.ref qw, .int (nI 0), .int 1732584193, .int (-271733879), .int (-1732584194), .int 271733878])), (qw, .inl (cW, 16, .inl (fun _ => 0))), (qm, .inl (cM, 4, .inl (fun _ => 0)))] H := hP
  have hD : va_D A [(h, .inr (1, [.ref qt, .int (nI 0), .ref qk, .ref qs, .ref qm, .int 0])), (qt, .inl (cT, 2000, .inl (fun _ => 0))), (qk, .inl (cK, 16, .inl (fun _ => 0))), (qs, .inr (0, [.ref qw, .int (nI 0), .int 1732584193, .int (-271733879), .int (-1732584194), .int 271733878])), (qw, .inl (cW, 16, .inl (fun _ => 0))), (qm, .inl (cM, 4, .inl (fun _ => 0)))] := hD
  have hP9 := hP.sub (ws' := [(h, .inr (1, [.ref qt, .int (nI 0), .ref qk, .ref qs, .ref qm, .int 0])), (qt, .inl (cT, 2000, .inl (fun _ => 0))), (qk, .inl (cK, 16, .inl (fun _ => 0))), (qs, .inr (0, [.ref qw, .int (nI 0), .int 1732584193, .int (-271733879), .int (-1732584194), .int 271733878])), (qw, .inl (cW, 16, .inl (fun _ => 0))), (qm, .inl (cM, 4, .inl (fun _ => 0)))]) [0, 1, 2, 3, 4, 5] rfl
  have hD9 := hD.sub (ws' := [(h, .inr (1, [.ref qt, .int (nI 0), .ref qk, .ref qs, .ref qm, .int 0])), (qt, .inl (cT, 2000, .inl (fun _ => 0))), (qk, .inl (cK, 16, .inl (fun _ => 0))), (qs, .inr (0, [.ref qw, .int (nI 0), .int 1732584193, .int (-271733879), .int (-1732584194), .int 271733878])), (qw, .inl (cW, 16, .inl (fun _ => 0))), (qm, .inl (cM, 4, .inl (fun _ => 0)))]) [0, 1, 2, 3, 4, 5] (by decide) rfl
  have hK9 := hK.sub (tys' := [(cT, .byte), (cK, .byte), (cW, .int), (cM, .int)]) [0, 1, 2, 3] rfl
  exact W.vret hx hb hr (fun t ht hW => ⟨⟨(), rfl, trivial, qt, qk, qs, qw, qm, cT, cK, cW, cM, by rw [ht]; exact hP9, va_K.moved hW.alike hK9, hD9⟩, hS.F ht⟩) hS.2.2 dX1_init_49
