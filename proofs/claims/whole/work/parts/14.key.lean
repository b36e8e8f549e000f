set_option maxHeartbeats 4000000 in
set_option maxRecDepth 100000 in
/-- key, too long -/
theorem c_key_no (l : Launch) (dC : Nat → ClassId) (dI : Nat → Nat → Nat) (sz : Nat) (h qt qk qs qm : Nat) (cT cK : ClassId) (tn : Nat) (hs : Int32) (ft fk : Nat → Int32) (h1 : 16 < tn) (h2 : tn ≤ 2000) : Met l yX1_key wsX1_key ({ frames := 0, cells := 0, slots := 0, locals := 0 }) (va_Pc [.ref h] (fun U => U.heap.size = sz ∧ va_P (dC, dI) vwCl [(h, .inr (1, [.ref qt, .int (nI tn), .ref qk, .ref qs, .ref qm, .int hs])), (qt, .inl (cT, 2000, .inl ft)), (qk, .inl (cK, 16, .inl fk))] U.heap ∧ va_K (dC, dI) vwCl [(cT, .byte), (cK, .byte)] U ∧ va_D (fun _ => True) [(h, .inr (1, [.ref qt, .int (nI tn), .ref qk, .ref qs, .ref qm, .int hs])), (qt, .inl (cT, 2000, .inl ft)), (qk, .inl (cK, 16, .inl fk))])) (va_Qi (fun (r : Int32) (_u : Unit) => r = -1) (fun (_u : Unit) t => kz_B dC dI [(cT, .byte), (cK, .byte)] (va_A [(h, .inr (1, [.ref qt, .int (nI tn), .ref qk, .ref qs, .ref qm, .int hs])), (qt, .inl (cT, 2000, .inl ft)), (qk, .inl (cK, 16, .inl fk))] sz) [(h, .inr (1, [.ref qt, .int (nI 0), .ref qk, .ref qs, .ref qm, .int hs])), (qt, .inl (cT, 2000, .inl ft)), (qk, .inl (cK, 16, .inl fk))] t) (va_A [(h, .inr (1, [.ref qt, .int (nI tn), .ref qk, .ref qs, .ref qm, .int hs])), (qt, .inl (cT, 2000, .inl ft)), (qk, .inl (cK, 16, .inl fk))] sz)) 0 0 (va_A [(h, .inr (1, [.ref qt, .int (nI tn), .ref qk, .ref qs, .ref qm, .int hs])), (qt, .inl (cT, 2000, .inl ft)), (qk, .inl (cK, 16, .inl fk))] sz) := by
  refine Met.ofW (cc := cX1_key) (maxL := 3) (ret := (some .int)) (by decide) rfl ?_
  intro p e s m args below meth c s₁ B hml hv
  obtain ⟨rfl, hsz, hP, hK, hD0⟩ := hv
  have hx := B.exec
  have hb := B.bytes
  have hr := B.returns
  have hts := atoms_spec (ws := wsX1_key) B.pre
  have hown : s.vm.findClass RX1 = some m.cls := findClass_of_methodNamed B.named
  have hlocks := B.notSynchronized
  subst hsz
  have hD := hD0.self (sz := s.heap.size)
  generalize hAe : va_A [(h, .inr (1, [.ref qt, .int (nI tn), .ref qk, .ref qs, .ref qm, .int hs])), (qt, .inl (cT, 2000, .inl ft)), (qk, .inl (cK, 16, .inl fk))] s.heap.size = A at hD  ⊢
  have hA : ∀ q : Nat, s.heap.size ≤ q → A q := fun q h => by rw [← hAe]; exact Or.inr h
  have hS : va_S A s.heap s.heap [] := va_S.rf
  have hP : va_P (dC, dI) vwCl [(h, .inr (1, [.ref qt, .int (nI tn), .ref qk, .ref qs, .ref qm, .int hs])), (qt, .inl (cT, 2000, .inl ft)), (qk, .inl (cK, 16, .inl fk))] s.heap := hP
  have hl := lv_entry ([.ref h]) (n := 3) (Nat.le_of_ble_eq_true rfl)
  rw [lg_entry_eq]
  generalize (lg_sl ([.ref h]) ++ List.replicate (3 - (lg_sl ([.ref h])).length) Slot.unset).toArray = ls at hl ⊢
  have hl : lv_has ls 3 [(0, .ref h)] := hl
  refine lv_aload_n hx hb dX1_key_0 rfl (lv_at hl 0 rfl) ?_
  refine va_get (D := (dC, dI)) (ci := 1) (v := .int (nI tn)) (C := RX1) (T := TX1) (N := 6) hx hb hts (by decide +kernel) hown hK hP 0 rfl rfl 1 (by decide) (hts (.fieldLink RX1 13 "KeySums" "tapeSize" "I") (by decide +kernel)) (fun _ h9 => h9) rfl dX1_key_1 ?_
  refine lv_istore_n (lv' := [(1, .int (nI tn)), (0, .ref h)]) hx hb dX1_key_4 rfl hl (by decide) rfl (fun ls hl => ?_)
  refine lv_aload_n hx hb dX1_key_5 rfl (lv_at hl 1 rfl) ?_
  refine lv_iconst (v := 0) hx hb dX1_key_6 (by decide) ?_
  refine kz_top (y := nI 0) nI_0.symm ?_
  refine va_put (D := (dC, dI)) (ci := 1) (v := .int (nI 0)) (ty := .int) (C := RX1) (T := TX1) (N := 6) hx hb hts (by decide +kernel) tyX1 tyX1_ok nmX1 hown hK hP hD hS 0 rfl rfl 1 (by decide) (hts (.fieldLink RX1 13 "KeySums" "tapeSize" "I") (by decide +kernel)) (fun _ h9 => h9) rfl (by decide +kernel) rfl rfl (Nat.le_of_ble_eq_true rfl) dX1_key_7 (fun H locs hP hD hS => ?_)
  have hP : va_P (dC, dI) vwCl [(h, .inr (1, [.ref qt, .int (nI 0), .ref qk, .ref qs, .ref qm, .int hs])), (qt, .inl (cT, 2000, .inl ft)), (qk, .inl (cK, 16, .inl fk))] H := hP
  have hD : va_D A [(h, .inr (1, [.ref qt, .int (nI 0), .ref qk, .ref qs, .ref qm, .int hs])), (qt, .inl (cT, 2000, .inl ft)), (qk, .inl (cK, 16, .inl fk))] := hD
  refine lv_iload_n hx hb dX1_key_10 rfl (lv_at hl 0 rfl) ?_
  refine lv_bipush (v := 16) hx hb dX1_key_11 (by decide) ?_
  refine lv_icmp_le (tgt := 18) hx hb dX1_key_13 (by decide) (fun hc => ?_) (fun hc => ?_)
  · skip
    exact absurd hc (nI_ge (a := 16) (b := tn) h1 (by omega))
  · skip
    refine lv_iconst (v := (-1)) hx hb dX1_key_16 (by decide) ?_
    have hP9 := hP.sub (ws' := [(h, .inr (1, [.ref qt, .int (nI 0), .ref qk, .ref qs, .ref qm, .int hs])), (qt, .inl (cT, 2000, .inl ft)), (qk, .inl (cK, 16, .inl fk))]) [0, 1, 2] rfl
    have hD9 := hD.sub (ws' := [(h, .inr (1, [.ref qt, .int (nI 0), .ref qk, .ref qs, .ref qm, .int hs])), (qt, .inl (cT, 2000, .inl ft)), (qk, .inl (cK, 16, .inl fk))]) [0, 1, 2] (by decide) rfl
    have hK9 := hK.sub (tys' := [(cT, .byte), (cK, .byte)]) [0, 1] rfl
    exact W.iret (v := (-1)) hx hb hr (fun t ht hW => ⟨⟨(-1), (), rfl, rfl, by rw [ht]; exact hP9, va_K.moved hW.alike hK9, hD9⟩, hS.F ht⟩) hS.2.2 dX1_key_17

set_option maxHeartbeats 4000000 in
set_option maxRecDepth 100000 in
/-- key -/
theorem c_key_ok (l : Launch) (dC : Nat → ClassId) (dI : Nat → Nat → Nat) (sz : Nat) (h qt qk qs qm : Nat) (cT cK : ClassId) (tn : Nat) (hs : Int32) (ft fk : Nat → Int32) (h1 : tn ≤ 16) : Met l yX1_key wsX1_key ({ frames := 0, cells := 0, slots := 0, locals := 0 }) (va_Pc [.ref h] (fun U => U.heap.size = sz ∧ va_P (dC, dI) vwCl [(h, .inr (1, [.ref qt, .int (nI tn), .ref qk, .ref qs, .ref qm, .int hs])), (qt, .inl (cT, 2000, .inl ft)), (qk, .inl (cK, 16, .inl fk))] U.heap ∧ va_K (dC, dI) vwCl [(cT, .byte), (cK, .byte)] U ∧ va_D (fun _ => True) [(h, .inr (1, [.ref qt, .int (nI tn), .ref qk, .ref qs, .ref qm, .int hs])), (qt, .inl (cT, 2000, .inl ft)), (qk, .inl (cK, 16, .inl fk))])) (va_Qi (fun (r : Int32) (u : Nat → Int32) => r = nI tn ∧ ∀ j, j < 16 → u j &&& 255 = (if j < tn then ft j else 0) &&& 255) (fun (u : Nat → Int32) t => kz_B dC dI [(cT, .byte), (cK, .byte)] (va_A [(h, .inr (1, [.ref qt, .int (nI tn), .ref qk, .ref qs, .ref qm, .int hs])), (qt, .inl (cT, 2000, .inl ft)), (qk, .inl (cK, 16, .inl fk))] sz) [(h, .inr (1, [.ref qt, .int (nI 0), .ref qk, .ref qs, .ref qm, .int hs])), (qt, .inl (cT, 2000, .inl ft)), (qk, .inl (cK, 16, .inl u))] t) (va_A [(h, .inr (1, [.ref qt, .int (nI tn), .ref qk, .ref qs, .ref qm, .int hs])), (qt, .inl (cT, 2000, .inl ft)), (qk, .inl (cK, 16, .inl fk))] sz)) 0 0 (va_A [(h, .inr (1, [.ref qt, .int (nI tn), .ref qk, .ref qs, .ref qm, .int hs])), (qt, .inl (cT, 2000, .inl ft)), (qk, .inl (cK, 16, .inl fk))] sz) := by
  refine Met.ofW (cc := cX1_key) (maxL := 3) (ret := (some .int)) (by decide) rfl ?_
  intro p e s m args below meth c s₁ B hml hv
  obtain ⟨rfl, hsz, hP, hK, hD0⟩ := hv
  have hx := B.exec
  have hb := B.bytes
  have hr := B.returns
  have hts := atoms_spec (ws := wsX1_key) B.pre
  have hown : s.vm.findClass RX1 = some m.cls := findClass_of_methodNamed B.named
  have hlocks := B.notSynchronized
  subst hsz
  have hD := hD0.self (sz := s.heap.size)
  generalize hAe : va_A [(h, .inr (1, [.ref qt, .int (nI tn), .ref qk, .ref qs, .ref qm, .int hs])), (qt, .inl (cT, 2000, .inl ft)), (qk, .inl (cK, 16, .inl fk))] s.heap.size = A at hD  ⊢
  have hA : ∀ q : Nat, s.heap.size ≤ q → A q := fun q h => by rw [← hAe]; exact Or.inr h
  have hS : va_S A s.heap s.heap [] := va_S.rf
  have hP : va_P (dC, dI) vwCl [(h, .inr (1, [.ref qt, .int (nI tn), .ref qk, .ref qs, .ref qm, .int hs])), (qt, .inl (cT, 2000, .inl ft)), (qk, .inl (cK, 16, .inl fk))] s.heap := hP
  have hl := lv_entry ([.ref h]) (n := 3) (Nat.le_of_ble_eq_true rfl)
  rw [lg_entry_eq]
  generalize (lg_sl ([.ref h]) ++ List.replicate (3 - (lg_sl ([.ref h])).length) Slot.unset).toArray = ls at hl ⊢
  have hl : lv_has ls 3 [(0, .ref h)] := hl
  refine lv_aload_n hx hb dX1_key_0 rfl (lv_at hl 0 rfl) ?_
  refine va_get (D := (dC, dI)) (ci := 1) (v := .int (nI tn)) (C := RX1) (T := TX1) (N := 6) hx hb hts (by decide +kernel) hown hK hP 0 rfl rfl 1 (by decide) (hts (.fieldLink RX1 13 "KeySums" "tapeSize" "I") (by decide +kernel)) (fun _ h9 => h9) rfl dX1_key_1 ?_
  refine lv_istore_n (lv' := [(1, .int (nI tn)), (0, .ref h)]) hx hb dX1_key_4 rfl hl (by decide) rfl (fun ls hl => ?_)
  refine lv_aload_n hx hb dX1_key_5 rfl (lv_at hl 1 rfl) ?_
  refine lv_iconst (v := 0) hx hb dX1_key_6 (by decide) ?_
  refine kz_top (y := nI 0) nI_0.symm ?_
  refine va_put (D := (dC, dI)) (ci := 1) (v := .int (nI 0)) (ty := .int) (C := RX1) (T := TX1) (N := 6) hx hb hts (by decide +kernel) tyX1 tyX1_ok nmX1 hown hK hP hD hS 0 rfl rfl 1 (by decide) (hts (.fieldLink RX1 13 "KeySums" "tapeSize" "I") (by decide +kernel)) (fun _ h9 => h9) rfl (by decide +kernel) rfl rfl (Nat.le_of_ble_eq_true rfl) dX1_key_7 (fun H locs hP hD hS => ?_)
  have hP : va_P (dC, dI) vwCl [(h, .inr (1, [.ref qt, .int (nI 0), .ref qk, .ref qs, .ref qm, .int hs])), (qt, .inl (cT, 2000, .inl ft)), (qk, .inl (cK, 16, .inl fk))] H := hP
  have hD : va_D A [(h, .inr (1, [.ref qt, .int (nI 0), .ref qk, .ref qs, .ref qm, .int hs])), (qt, .inl (cT, 2000, .inl ft)), (qk, .inl (cK, 16, .inl fk))] := hD
  refine lv_iload_n hx hb dX1_key_10 rfl (lv_at hl 0 rfl) ?_
  refine lv_bipush (v := 16) hx hb dX1_key_11 (by decide) ?_
  refine lv_icmp_le (tgt := 18) hx hb dX1_key_13 (by decide) (fun hc => ?_) (fun hc => ?_)
  · skip
    refine lv_iconst (v := 0) hx hb dX1_key_18 (by decide) ?_
    refine kz_top (y := nI 0) nI_0.symm ?_
    refine lv_istore_n (lv' := [(2, .int (nI 0)), (1, .int (nI tn)), (0, .ref h)]) hx hb dX1_key_19 rfl hl (by decide) rfl (fun ls hl => ?_)
    refine kz_loop (σ := Nat → Int32) (fun i x ls H locs => (∀ j, j < i → x j &&& 255 = (if j < tn then ft j else 0) &&& 255) ∧ lv_has ls 3 [(2, .int (nI i)), (1, .int (nI tn)), (0, .ref h)] ∧ va_P (dC, dI) vwCl [(h, .inr (1, [.ref qt, .int (nI 0), .ref qk, .ref qs, .ref qm, .int hs])), (qt, .inl (cT, 2000, .inl ft)), (qk, .inl (cK, 16, .inl x))] H ∧ va_D A [(h, .inr (1, [.ref qt, .int (nI 0), .ref qk, .ref qs, .ref qm, .int hs])), (qt, .inl (cT, 2000, .inl ft)), (qk, .inl (cK, 16, .inl x))] ∧ va_S A s.heap H locs) 16 ?_ ?_ 0 fk ls _ _ (Nat.zero_le _) ⟨fun j hj => absurd hj (Nat.not_lt_zero j), lv_sub hl [0, 1, 2] rfl, hP, hD, hS⟩
    · skip
      intro i x ls H locs hlt hI ih
      obtain ⟨hv, hl, hP, hD, hS⟩ := hI
      refine lv_iload_n hx hb dX1_key_20 rfl (lv_at hl 0 rfl) ?_
      refine lv_bipush (v := 16) hx hb dX1_key_21 (by decide) ?_
      refine lv_icmp_ge (tgt := 53) hx hb dX1_key_23 (by decide) (fun hc => ?_) (fun hc => ?_)
      · skip
        exact absurd hc (nI_ge (a := i) (b := 16) hlt (by decide))
      · skip
        refine lv_aload_n hx hb dX1_key_26 rfl (lv_at hl 2 rfl) ?_
        refine va_get (D := (dC, dI)) (ci := 1) (v := .ref qk) (C := RX1) (T := TX1) (N := 6) hx hb hts (by decide +kernel) hown hK hP 0 rfl rfl 2 (by decide) (hts (.fieldLink RX1 17 "KeySums" "keyBytes" "[B") (by decide +kernel)) (fun _ h9 => h9) rfl dX1_key_27 ?_
        refine lv_iload_n hx hb dX1_key_30 rfl (lv_at hl 0 rfl) ?_
        refine lv_iload_n hx hb dX1_key_31 rfl (lv_at hl 0 rfl) ?_
        refine lv_iload_n hx hb dX1_key_32 rfl (lv_at hl 1 rfl) ?_
        refine lv_icmp_ge (tgt := 45) hx hb dX1_key_33 (by decide) (fun hc => ?_) (fun hc => ?_)
        · skip
          have hge : ¬ i < tn := fun q => absurd hc (nI_ge q (by omega))
          refine lv_iconst (v := 0) hx hb dX1_key_45 (by decide) ?_
          refine kz_bast (j := i) (x := 0) (x2 := 0) hx hb hK hP hD hS 2 1 rfl rfl (hlt) (by decide) (by decide) dX1_key_46 (fun H locs hP hD hS => ?_)
          have hP : va_P (dC, dI) vwCl [(h, .inr (1, [.ref qt, .int (nI 0), .ref qk, .ref qs, .ref qm, .int hs])), (qt, .inl (cT, 2000, .inl ft)), (qk, .inl (cK, 16, .inl (upd x i 0)))] H := hP
          have hD : va_D A [(h, .inr (1, [.ref qt, .int (nI 0), .ref qk, .ref qs, .ref qm, .int hs])), (qt, .inl (cT, 2000, .inl ft)), (qk, .inl (cK, 16, .inl (upd x i 0)))] := hD
          refine lv_iinc (v := nI (i + 1)) (lv' := [(2, .int (nI (i + 1))), (1, .int (nI tn)), (0, .ref h)]) hx hb dX1_key_47 hl (k := 0) rfl (nI_1 i) (by decide) rfl (fun ls hl => ?_)
          refine lv_goto (tgt := 20) hx hb dX1_key_50 (by decide) ?_
          refine ih _ ls H locs ⟨?_, lv_sub hl [0, 1, 2] rfl, hP, hD, hS⟩
          intro j hj
          by_cases q : j = i
          · subst q; rw [pk_us, if_neg hge]
          · rw [pk_un q]; exact hv j (by omega)
        · skip
          have hlt2 : i < tn := by
            rcases Nat.lt_or_ge i tn with q | q
            · exact q
            · exact absurd (nI_le q (by omega)) hc
          refine lv_aload_n hx hb dX1_key_36 rfl (lv_at hl 2 rfl) ?_
          refine va_get (D := (dC, dI)) (ci := 1) (v := .ref qt) (C := RX1) (T := TX1) (N := 6) hx hb hts (by decide +kernel) hown hK hP 0 rfl rfl 0 (by decide) (hts (.fieldLink RX1 9 "KeySums" "tape" "[B") (by decide +kernel)) (fun _ h9 => h9) rfl dX1_key_37 ?_
          refine lv_iload_n hx hb dX1_key_40 rfl (lv_at hl 0 rfl) ?_
          refine kz_bald (j := i) hx hb hK hP 1 0 rfl rfl (show i < 2000 by omega) (by decide) dX1_key_41 ?_
          refine lv_goto (tgt := 46) hx hb dX1_key_42 (by decide) ?_
          refine kz_bast (j := i) (x := ft i) (x2 := (ft i).toInt8.toInt32) hx hb hK hP hD hS 2 1 rfl rfl (hlt) (by decide) rfl dX1_key_46 (fun H locs hP hD hS => ?_)
          have hP : va_P (dC, dI) vwCl [(h, .inr (1, [.ref qt, .int (nI 0), .ref qk, .ref qs, .ref qm, .int hs])), (qt, .inl (cT, 2000, .inl ft)), (qk, .inl (cK, 16, .inl (upd x i ((ft i).toInt8.toInt32))))] H := hP
          have hD : va_D A [(h, .inr (1, [.ref qt, .int (nI 0), .ref qk, .ref qs, .ref qm, .int hs])), (qt, .inl (cT, 2000, .inl ft)), (qk, .inl (cK, 16, .inl (upd x i ((ft i).toInt8.toInt32))))] := hD
          refine lv_iinc (v := nI (i + 1)) (lv' := [(2, .int (nI (i + 1))), (1, .int (nI tn)), (0, .ref h)]) hx hb dX1_key_47 hl (k := 0) rfl (nI_1 i) (by decide) rfl (fun ls hl => ?_)
          refine lv_goto (tgt := 20) hx hb dX1_key_50 (by decide) ?_
          refine ih _ ls H locs ⟨?_, lv_sub hl [0, 1, 2] rfl, hP, hD, hS⟩
          intro j hj
          by_cases q : j = i
          · subst q; rw [pk_us, if_pos hlt2]; exact bp_b _
          · rw [pk_un q]; exact hv j (by omega)
    · skip
      intro x ls H locs hI
      obtain ⟨hv, hl, hP, hD, hS⟩ := hI
      refine lv_iload_n hx hb dX1_key_20 rfl (lv_at hl 0 rfl) ?_
      refine lv_bipush (v := 16) hx hb dX1_key_21 (by decide) ?_
      refine lv_icmp_ge (tgt := 53) hx hb dX1_key_23 (by decide) (fun hc => ?_) (fun hc => ?_)
      · skip
        refine lv_iload_n hx hb dX1_key_53 rfl (lv_at hl 1 rfl) ?_
        have hP9 := hP.sub (ws' := [(h, .inr (1, [.ref qt, .int (nI 0), .ref qk, .ref qs, .ref qm, .int hs])), (qt, .inl (cT, 2000, .inl ft)), (qk, .inl (cK, 16, .inl x))]) [0, 1, 2] rfl
        have hD9 := hD.sub (ws' := [(h, .inr (1, [.ref qt, .int (nI 0), .ref qk, .ref qs, .ref qm, .int hs])), (qt, .inl (cT, 2000, .inl ft)), (qk, .inl (cK, 16, .inl x))]) [0, 1, 2] (by decide) rfl
        have hK9 := hK.sub (tys' := [(cT, .byte), (cK, .byte)]) [0, 1] rfl
        exact W.iret (v := (nI tn)) hx hb hr (fun t ht hW => ⟨⟨(nI tn), x, rfl, ⟨rfl, hv⟩, by rw [ht]; exact hP9, va_K.moved hW.alike hK9, hD9⟩, hS.F ht⟩) hS.2.2 dX1_key_54
      · skip
        exact absurd (nI_le (a := 16) (b := 16) (Nat.le_refl _) (by decide)) hc
  · skip
    exact absurd (nI_le (a := tn) (b := 16) h1 (by decide)) hc

set_option maxHeartbeats 4000000 in
set_option maxRecDepth 100000 in
/-- sumAt, none -/
theorem c_sumAt_no (l : Launch) (dC : Nat → ClassId) (dI : Nat → Nat → Nat) (sz : Nat) (h qt qk qs qm : Nat) (cM : ClassId) (tn hs : Int32) (fs : Nat → Int32) (x : Int32) (h1 : hs = 0 ∨ x < 0 ∨ 16 ≤ x) : Met l yX1_sumAt wsX1_sumAt ({ frames := 0, cells := 0, slots := 0, locals := 0 }) (va_Pc [.ref h, .int x] (fun U => U.heap.size = sz ∧ va_P (dC, dI) vwCl [(h, .inr (1, [.ref qt, .int tn, .ref qk, .ref qs, .ref qm, .int hs])), (qm, .inl (cM, 4, .inl fs))] U.heap ∧ va_K (dC, dI) vwCl [(cM, .int)] U ∧ va_D (fun _ => True) [(h, .inr (1, [.ref qt, .int tn, .ref qk, .ref qs, .ref qm, .int hs])), (qm, .inl (cM, 4, .inl fs))])) (vp_Si (fun r => r = -1)) 0 0 (fun _ => False) := by
  refine Met.ofW (cc := cX1_sumAt) (maxL := 2) (ret := (some .int)) (by decide) rfl ?_
  intro p e s m args below meth c s₁ B hml hv
  obtain ⟨rfl, hsz, hP, hK, hD0⟩ := hv
  have hx := B.exec
  have hb := B.bytes
  have hr := B.returns
  have hts := atoms_spec (ws := wsX1_sumAt) B.pre
  have hown : s.vm.findClass RX1 = some m.cls := findClass_of_methodNamed B.named
  have hlocks := B.notSynchronized
  subst hsz
  have hD := hD0.self (sz := s.heap.size)
  generalize hAe : va_A [(h, .inr (1, [.ref qt, .int tn, .ref qk, .ref qs, .ref qm, .int hs])), (qm, .inl (cM, 4, .inl fs))] s.heap.size = A at hD  ⊢
  have hA : ∀ q : Nat, s.heap.size ≤ q → A q := fun q h => by rw [← hAe]; exact Or.inr h
  have hS : va_S A s.heap s.heap [] := va_S.rf
  have hP : va_P (dC, dI) vwCl [(h, .inr (1, [.ref qt, .int tn, .ref qk, .ref qs, .ref qm, .int hs])), (qm, .inl (cM, 4, .inl fs))] s.heap := hP
  have hl := lv_entry ([.ref h, .int x]) (n := 2) (Nat.le_of_ble_eq_true rfl)
  rw [lg_entry_eq]
  generalize (lg_sl ([.ref h, .int x]) ++ List.replicate (2 - (lg_sl ([.ref h, .int x])).length) Slot.unset).toArray = ls at hl ⊢
  have hl : lv_has ls 2 [(0, .ref h), (1, .int x)] := hl
  refine lv_aload_n hx hb dX1_sumAt_0 rfl (lv_at hl 0 rfl) ?_
  refine va_get (D := (dC, dI)) (ci := 1) (v := .int hs) (C := RX1) (T := TX1) (N := 6) hx hb hts (by decide +kernel) hown hK hP 0 rfl rfl 5 (by decide) (hts (.fieldLink RX1 31 "KeySums" "hasSum" "Z") (by decide +kernel)) (fun _ h9 => h9) rfl dX1_sumAt_1 ?_
  refine lv_if_eq (tgt := 17) hx hb dX1_sumAt_4 (by decide) (fun hc => ?_) (fun hc => ?_)
  · skip
    refine lv_iconst (v := (-1)) hx hb dX1_sumAt_17 (by decide) ?_
    exact W.iret (v := (-1)) hx hb hr (fun t ht hW => ⟨(-1), rfl, rfl, ht⟩) (fun q h => by cases h) dX1_sumAt_18
  · skip
    have h1 := h1.resolve_left hc
    refine lv_iload_n hx hb dX1_sumAt_7 rfl (lv_at hl 1 rfl) ?_
    refine lv_if_lt (tgt := 17) hx hb dX1_sumAt_8 (by decide) (fun hc => ?_) (fun hc => ?_)
    · skip
      refine lv_iconst (v := (-1)) hx hb dX1_sumAt_17 (by decide) ?_
      exact W.iret (v := (-1)) hx hb hr (fun t ht hW => ⟨(-1), rfl, rfl, ht⟩) (fun q h => by cases h) dX1_sumAt_18
    · skip
      have h1 := h1.resolve_left hc
      refine lv_iload_n hx hb dX1_sumAt_11 rfl (lv_at hl 1 rfl) ?_
      refine lv_bipush (v := 16) hx hb dX1_sumAt_12 (by decide) ?_
      refine lv_icmp_lt (tgt := 19) hx hb dX1_sumAt_14 (by decide) (fun hc => ?_) (fun hc => ?_)
      · skip
        exact absurd hc (Int32.not_lt.mpr h1)
      · skip
        refine lv_iconst (v := (-1)) hx hb dX1_sumAt_17 (by decide) ?_
        exact W.iret (v := (-1)) hx hb hr (fun t ht hW => ⟨(-1), rfl, rfl, ht⟩) (fun q h => by cases h) dX1_sumAt_18

set_option maxHeartbeats 4000000 in
set_option maxRecDepth 100000 in
/-- sumAt -/
theorem c_sumAt_ok (l : Launch) (dC : Nat → ClassId) (dI : Nat → Nat → Nat) (sz : Nat) (h qt qk qs qm : Nat) (cM : ClassId) (tn : Int32) (fs : Nat → Int32) (i : Nat) (h1 : i < 16) : Met l yX1_sumAt wsX1_sumAt ({ frames := 0, cells := 0, slots := 0, locals := 0 }) (va_Pc [.ref h, .int (nI i)] (fun U => U.heap.size = sz ∧ va_P (dC, dI) vwCl [(h, .inr (1, [.ref qt, .int tn, .ref qk, .ref qs, .ref qm, .int 1])), (qm, .inl (cM, 4, .inl fs))] U.heap ∧ va_K (dC, dI) vwCl [(cM, .int)] U ∧ va_D (fun _ => True) [(h, .inr (1, [.ref qt, .int tn, .ref qk, .ref qs, .ref qm, .int 1])), (qm, .inl (cM, 4, .inl fs))])) (vp_Si (fun r => r = ks_us (fs (i / 4)) (nI (8 * (i % 4))) &&& 255)) 0 0 (fun _ => False) := by
  refine Met.ofW (cc := cX1_sumAt) (maxL := 2) (ret := (some .int)) (by decide) rfl ?_
  intro p e s m args below meth c s₁ B hml hv
  obtain ⟨rfl, hsz, hP, hK, hD0⟩ := hv
  have hx := B.exec
  have hb := B.bytes
  have hr := B.returns
  have hts := atoms_spec (ws := wsX1_sumAt) B.pre
  have hown : s.vm.findClass RX1 = some m.cls := findClass_of_methodNamed B.named
  have hlocks := B.notSynchronized
  subst hsz
  have hD := hD0.self (sz := s.heap.size)
  generalize hAe : va_A [(h, .inr (1, [.ref qt, .int tn, .ref qk, .ref qs, .ref qm, .int 1])), (qm, .inl (cM, 4, .inl fs))] s.heap.size = A at hD  ⊢
  have hA : ∀ q : Nat, s.heap.size ≤ q → A q := fun q h => by rw [← hAe]; exact Or.inr h
  have hS : va_S A s.heap s.heap [] := va_S.rf
  have hP : va_P (dC, dI) vwCl [(h, .inr (1, [.ref qt, .int tn, .ref qk, .ref qs, .ref qm, .int 1])), (qm, .inl (cM, 4, .inl fs))] s.heap := hP
  have hl := lv_entry ([.ref h, .int (nI i)]) (n := 2) (Nat.le_of_ble_eq_true rfl)
  rw [lg_entry_eq]
  generalize (lg_sl ([.ref h, .int (nI i)]) ++ List.replicate (2 - (lg_sl ([.ref h, .int (nI i)])).length) Slot.unset).toArray = ls at hl ⊢
  have hl : lv_has ls 2 [(0, .ref h), (1, .int (nI i))] := hl
  refine lv_aload_n hx hb dX1_sumAt_0 rfl (lv_at hl 0 rfl) ?_
  refine va_get (D := (dC, dI)) (ci := 1) (v := .int 1) (C := RX1) (T := TX1) (N := 6) hx hb hts (by decide +kernel) hown hK hP 0 rfl rfl 5 (by decide) (hts (.fieldLink RX1 31 "KeySums" "hasSum" "Z") (by decide +kernel)) (fun _ h9 => h9) rfl dX1_sumAt_1 ?_
  refine lv_if_eq (tgt := 17) hx hb dX1_sumAt_4 (by decide) (fun hc => ?_) (fun hc => ?_)
  · skip
    exact absurd hc (by decide)
  · skip
    refine lv_iload_n hx hb dX1_sumAt_7 rfl (lv_at hl 1 rfl) ?_
    refine lv_if_lt (tgt := 17) hx hb dX1_sumAt_8 (by decide) (fun hc => ?_) (fun hc => ?_)
    · skip
      exact absurd hc (nI_pos (n := i) (by omega))
    · skip
      refine lv_iload_n hx hb dX1_sumAt_11 rfl (lv_at hl 1 rfl) ?_
      refine lv_bipush (v := 16) hx hb dX1_sumAt_12 (by decide) ?_
      refine lv_icmp_lt (tgt := 19) hx hb dX1_sumAt_14 (by decide) (fun hc => ?_) (fun hc => ?_)
      · skip
        refine lv_aload_n hx hb dX1_sumAt_19 rfl (lv_at hl 0 rfl) ?_
        refine va_get (D := (dC, dI)) (ci := 1) (v := .ref qm) (C := RX1) (T := TX1) (N := 6) hx hb hts (by decide +kernel) hown hK hP 0 rfl rfl 4 (by decide) (hts (.fieldLink RX1 27 "KeySums" "keptSum" "[I") (by decide +kernel)) (fun _ h9 => h9) rfl dX1_sumAt_20 ?_
        refine lv_iload_n hx hb dX1_sumAt_23 rfl (lv_at hl 1 rfl) ?_
        refine lv_iconst (v := 2) hx hb dX1_sumAt_24 (by decide) ?_
        refine lv_ishr hx hb dX1_sumAt_25 ?_
        refine kz_top (y := nI (i / 4)) (pk_shrN (by omega) _ 2 (by decide)) ?_
        refine kz_iald (j := (i / 4)) hx hb hK hP 1 0 rfl rfl (show i / 4 < 4 by omega) (by decide) dX1_sumAt_26 ?_
        refine lv_bipush (v := 8) hx hb dX1_sumAt_27 (by decide) ?_
        refine lv_iload_n hx hb dX1_sumAt_29 rfl (lv_at hl 1 rfl) ?_
        refine lv_iconst (v := 3) hx hb dX1_sumAt_30 (by decide) ?_
        refine lv_iand hx hb dX1_sumAt_31 ?_
        refine kz_top (y := nI (i % 4)) (pk_andN (by omega) 2 (by decide)) ?_
        refine lv_imul hx hb dX1_sumAt_32 ?_
        refine kz_top (y := nI (8 * (i % 4))) (pk_mul 8 (i % 4)) ?_
        refine lv_iushr (v := ks_us (fs (i / 4)) (nI (8 * (i % 4)))) hx hb dX1_sumAt_33 rfl ?_
        refine lv_sipush (v := 255) hx hb dX1_sumAt_34 (by decide) ?_
        refine lv_iand hx hb dX1_sumAt_37 ?_
        exact W.iret (v := ((ks_us (fs (i / 4)) (nI (8 * (i % 4)))) &&& 255)) hx hb hr (fun t ht hW => ⟨((ks_us (fs (i / 4)) (nI (8 * (i % 4)))) &&& 255), rfl, rfl, ht⟩) (fun q h => by cases h) dX1_sumAt_38
      · skip
        exact absurd (nI_lt (a := i) (b := 16) h1 (by decide)) hc
