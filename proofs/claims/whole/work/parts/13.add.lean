set_option maxHeartbeats 4000000 in
set_option maxRecDepth 100000 in
/-- add -/
theorem c_add (l : Launch) (dC : Nat → ClassId) (dI : Nat → Nat → Nat) (sz : Nat) (tS tT h qt qk qs qw qm : Nat) (cT cW : ClassId) (tn n : Nat) (hs : Int32) (v : ks_Q) (ft wd f : Nat → Int32) (h1 : tn ≤ 2000) (h2 : n + tn < 2 ^ 28) (hi : ks_inv f n wd v) (hf : ∀ j, j < tn → f (n + j) &&& 255 = ft j &&& 255) : Met l yX1_add wsX1_add ({ frames := 3, cells := 0, slots := 0, locals := 100 }) (va_Pc [.ref h] (fun U => U.heap.size = sz ∧ va_P (dC, dI) vwCl [(h, .inr (1, [.ref qt, .int (nI tn), .ref qk, .ref qs, .ref qm, .int hs])), (qt, .inl (cT, 2000, .inl ft)), (qs, .inr (0, [.ref qw, .int (nI n), .int v.1, .int v.2.1, .int v.2.2.1, .int v.2.2.2])), (qw, .inl (cW, 16, .inl wd))] U.heap ∧ va_K (dC, dI) vwCl [(cT, .byte), (cW, .int)] U ∧ va_D (fun _ => True) [(h, .inr (1, [.ref qt, .int (nI tn), .ref qk, .ref qs, .ref qm, .int hs])), (qt, .inl (cT, 2000, .inl ft)), (qs, .inr (0, [.ref qw, .int (nI n), .int v.1, .int v.2.1, .int v.2.2.1, .int v.2.2.2])), (qw, .inl (cW, 16, .inl wd))] ∧ ks_tab tS tT (va_A [(h, .inr (1, [.ref qt, .int (nI tn), .ref qk, .ref qs, .ref qm, .int hs])), (qt, .inl (cT, 2000, .inl ft)), (qs, .inr (0, [.ref qw, .int (nI n), .int v.1, .int v.2.1, .int v.2.2.1, .int v.2.2.2])), (qw, .inl (cW, 16, .inl wd))] sz) U U.heap ∧ ks_nw U)) (va_Qi (fun (r : Int32) (u : (Nat → Int32) × ks_Q) => r = nI (n + tn) ∧ ks_inv f (n + tn) u.1 u.2) (fun (u : (Nat → Int32) × ks_Q) t => kz_B dC dI [(cT, .byte), (cW, .int)] (va_A [(h, .inr (1, [.ref qt, .int (nI tn), .ref qk, .ref qs, .ref qm, .int hs])), (qt, .inl (cT, 2000, .inl ft)), (qs, .inr (0, [.ref qw, .int (nI n), .int v.1, .int v.2.1, .int v.2.2.1, .int v.2.2.2])), (qw, .inl (cW, 16, .inl wd))] sz) [(h, .inr (1, [.ref qt, .int (nI 0), .ref qk, .ref qs, .ref qm, .int hs])), (qt, .inl (cT, 2000, .inl ft)), (qs, .inr (0, [.ref qw, .int (nI (n + tn)), .int u.2.1, .int u.2.2.1, .int u.2.2.2.1, .int u.2.2.2.2])), (qw, .inl (cW, 16, .inl u.1))] t) (va_A [(h, .inr (1, [.ref qt, .int (nI tn), .ref qk, .ref qs, .ref qm, .int hs])), (qt, .inl (cT, 2000, .inl ft)), (qs, .inr (0, [.ref qw, .int (nI n), .int v.1, .int v.2.1, .int v.2.2.1, .int v.2.2.2])), (qw, .inl (cW, 16, .inl wd))] sz)) 0 0 (va_A [(h, .inr (1, [.ref qt, .int (nI tn), .ref qk, .ref qs, .ref qm, .int hs])), (qt, .inl (cT, 2000, .inl ft)), (qs, .inr (0, [.ref qw, .int (nI n), .int v.1, .int v.2.1, .int v.2.2.1, .int v.2.2.2])), (qw, .inl (cW, 16, .inl wd))] sz) := by
  refine Met.ofW (cc := cX1_add) (maxL := 2) (ret := (some .int)) (by decide) rfl ?_
  intro p e s m args below meth c s₁ B hml hv
  obtain ⟨rfl, hsz, hP, hK, hD0, hT, hN⟩ := hv
  have hx := B.exec
  have hb := B.bytes
  have hr := B.returns
  have hts := atoms_spec (ws := wsX1_add) B.pre
  have hown : s.vm.findClass RX1 = some m.cls := findClass_of_methodNamed B.named
  have hlocks := B.notSynchronized
  subst hsz
  have hD := hD0.self (sz := s.heap.size)
  generalize hAe : va_A [(h, .inr (1, [.ref qt, .int (nI tn), .ref qk, .ref qs, .ref qm, .int hs])), (qt, .inl (cT, 2000, .inl ft)), (qs, .inr (0, [.ref qw, .int (nI n), .int v.1, .int v.2.1, .int v.2.2.1, .int v.2.2.2])), (qw, .inl (cW, 16, .inl wd))] s.heap.size = A at hD hT ⊢
  have hA : ∀ q : Nat, s.heap.size ≤ q → A q := fun q h => by rw [← hAe]; exact Or.inr h
  have hS : va_S A s.heap s.heap [] := va_S.rf
  have hP : va_P (dC, dI) vwCl [(h, .inr (1, [.ref qt, .int (nI tn), .ref qk, .ref qs, .ref qm, .int hs])), (qt, .inl (cT, 2000, .inl ft)), (qs, .inr (0, [.ref qw, .int (nI n), .int v.1, .int v.2.1, .int v.2.2.1, .int v.2.2.2])), (qw, .inl (cW, 16, .inl wd))] s.heap := hP
  have hl := lv_entry ([.ref h]) (n := 2) (Nat.le_of_ble_eq_true rfl)
  rw [lg_entry_eq]
  generalize (lg_sl ([.ref h]) ++ List.replicate (2 - (lg_sl ([.ref h])).length) Slot.unset).toArray = ls at hl ⊢
  have hl : lv_has ls 2 [(0, .ref h)] := hl
  refine lv_iconst (v := 0) hx hb dX1_add_0 (by decide) ?_
  refine kz_top (y := nI 0) nI_0.symm ?_
  refine lv_istore_n (lv' := [(1, .int (nI 0)), (0, .ref h)]) hx hb dX1_add_1 rfl hl (by decide) rfl (fun ls hl => ?_)
  refine kz_loop (σ := (Nat → Int32) × ks_Q) (fun i x ls H locs => ks_inv f (n + i) x.1 x.2 ∧ lv_has ls 2 [(1, .int (nI i)), (0, .ref h)] ∧ va_P (dC, dI) vwCl [(h, .inr (1, [.ref qt, .int (nI tn), .ref qk, .ref qs, .ref qm, .int hs])), (qt, .inl (cT, 2000, .inl ft)), (qs, .inr (0, [.ref qw, .int (nI (n + i)), .int x.2.1, .int x.2.2.1, .int x.2.2.2.1, .int x.2.2.2.2])), (qw, .inl (cW, 16, .inl x.1))] H ∧ va_D A [(h, .inr (1, [.ref qt, .int (nI tn), .ref qk, .ref qs, .ref qm, .int hs])), (qt, .inl (cT, 2000, .inl ft)), (qs, .inr (0, [.ref qw, .int (nI (n + i)), .int x.2.1, .int x.2.2.1, .int x.2.2.2.1, .int x.2.2.2.2])), (qw, .inl (cW, 16, .inl x.1))] ∧ va_S A s.heap H locs) tn ?_ ?_ 0 (wd, v) ls _ _ (Nat.zero_le _) ⟨hi, hl, hP, hD, hS⟩
  · skip
    intro i x ls H locs hlt hI ih
    obtain ⟨hv, hl, hP, hD, hS⟩ := hI
    refine lv_iload_n hx hb dX1_add_2 rfl (lv_at hl 0 rfl) ?_
    refine lv_aload_n hx hb dX1_add_3 rfl (lv_at hl 1 rfl) ?_
    refine va_get (D := (dC, dI)) (ci := 1) (v := .int (nI tn)) (C := RX1) (T := TX1) (N := 6) hx hb hts (by decide +kernel) hown hK hP 0 rfl rfl 1 (by decide) (hts (.fieldLink RX1 13 "KeySums" "tapeSize" "I") (by decide +kernel)) (fun _ h9 => h9) rfl dX1_add_4 ?_
    refine lv_icmp_ge (tgt := 29) hx hb dX1_add_7 (by decide) (fun hc => ?_) (fun hc => ?_)
    · skip
      exact absurd hc (nI_ge hlt (by omega))
    · skip
      refine lv_aload_n hx hb dX1_add_10 rfl (lv_at hl 1 rfl) ?_
      refine va_get (D := (dC, dI)) (ci := 1) (v := .ref qs) (C := RX1) (T := TX1) (N := 6) hx hb hts (by decide +kernel) hown hK hP 0 rfl rfl 3 (by decide) (hts (.fieldLink RX1 23 "KeySums" "summer" "LKeySums$Summer;") (by decide +kernel)) (fun _ h9 => h9) rfl dX1_add_11 ?_
      refine lv_aload_n hx hb dX1_add_14 rfl (lv_at hl 1 rfl) ?_
      refine va_get (D := (dC, dI)) (ci := 1) (v := .ref qt) (C := RX1) (T := TX1) (N := 6) hx hb hts (by decide +kernel) hown hK hP 0 rfl rfl 0 (by decide) (hts (.fieldLink RX1 9 "KeySums" "tape" "[B") (by decide +kernel)) (fun _ h9 => h9) rfl dX1_add_15 ?_
      refine lv_iload_n hx hb dX1_add_18 rfl (lv_at hl 0 rfl) ?_
      refine kz_bald (j := i) hx hb hK hP 1 0 rfl rfl (show i < 2000 by omega) (by decide) dX1_add_19 ?_
      have hPc := hP.sub (ws' := [(qs, .inr (0, [.ref qw, .int (nI (n + i)), .int x.2.1, .int x.2.2.1, .int x.2.2.2.1, .int x.2.2.2.2])), (qw, .inl (cW, 16, .inl x.1))]) [2, 3] rfl
      have hDc := hD.sub (ws' := [(qs, .inr (0, [.ref qw, .int (nI (n + i)), .int x.2.1, .int x.2.2.1, .int x.2.2.2.1, .int x.2.2.2.2])), (qw, .inl (cW, 16, .inl x.1))]) [2, 3] (by decide) rfl
      have hKc := hK.sub (tys' := [(cW, .int)]) [1] rfl
      have hFc := va_free (wc := [(qs, .inr (0, [.ref qw, .int (nI (n + i)), .int x.2.1, .int x.2.2.1, .int x.2.2.2.1, .int x.2.2.2.2])), (qw, .inl (cW, 16, .inl x.1))]) hD hS hA [2, 3] rfl
      refine va_callv (va_runVN (As := [.int (ft i)]) (rest := []) ⟨hx, hb, hml, hown, hts⟩ (c_take l dC dI H.size tS tT qs qw cW (n + i) x.2 x.1 f (ft i) (by omega) hv (hf i hlt)) ⟨va_cnB 1 hts gX1_add_X0_take_n39 rfl rfl rfl hN.2.2.2.2.2.2.1 (hts (.initialized RX0) (by decide +kernel)) (by decide +kernel) ⟨Nat.le_of_ble_eq_true rfl, Nat.le_of_ble_eq_true rfl⟩, hts (.instanceMethod yX0_take) (by decide +kernel), hts (.selects RX0 yX0_take yX0_take) (by decide +kernel)⟩ ⟨fun a U g mk q => by obtain ⟨q0, q1, qP, qK, qD, qx0⟩ := q; exact ⟨q0, q1, qP, va_K.moved (u := U) (U := U.calling g mk a) (Vm.Alike.refl U.vm) qK, qD, ks_tab.moved (u := U) (U := U.calling g mk a) (Vm.Alike.refl U.vm) qx0⟩, va_recv hKc hPc (ci := 0) (q0 := 0) rfl rfl, fun U hU hW => ⟨rfl, by rw [hU], by rw [hU]; exact hPc, va_K.moved hW.alike hKc, hDc.weaken (fun _ _ _ _ => trivial), hT.call hS hFc hU hW.alike⟩⟩ rfl rfl hl.1 rfl (lv_room (Nat.le_of_ble_eq_true rfl)) dX1_add_20 ⟨Nat.zero_le _, Nat.zero_le _⟩) hS (fun q _ h => hFc q h) hFc (fun u t H1 locs ht hvm hw hB hz1 hk1 hS => ?_)
      obtain ⟨wd2, v2⟩ := u
      obtain ⟨hP1, hK1, hD1⟩ := hB
      rw [ht] at hP1
      have hK1 := va_K.moved hvm.symm hK1
      try dsimp only at hw
      obtain ⟨hP, hD⟩ := va_join (wr := [(h, .inr (1, [.ref qt, .int (nI tn), .ref qk, .ref qs, .ref qm, .int hs])), (qt, .inl (cT, 2000, .inl ft))]) (w1 := [(qs, .inr (0, [.ref qw, .int (nI (n + i + 1)), .int v2.1, .int v2.2.1, .int v2.2.2.1, .int v2.2.2.2])), (qw, .inl (cW, 16, .inl wd2))]) hP hD [2, 3] [0, 1] rfl rfl (by decide) (by decide) hk1 hFc hP1 hD1
      have hP := hP.sub (ws' := [(h, .inr (1, [.ref qt, .int (nI tn), .ref qk, .ref qs, .ref qm, .int hs])), (qt, .inl (cT, 2000, .inl ft)), (qs, .inr (0, [.ref qw, .int (nI (n + i + 1)), .int v2.1, .int v2.2.1, .int v2.2.2.1, .int v2.2.2.2])), (qw, .inl (cW, 16, .inl wd2))]) [0, 1, 2, 3] rfl
      have hD := hD.sub (ws' := [(h, .inr (1, [.ref qt, .int (nI tn), .ref qk, .ref qs, .ref qm, .int hs])), (qt, .inl (cT, 2000, .inl ft)), (qs, .inr (0, [.ref qw, .int (nI (n + i + 1)), .int v2.1, .int v2.2.1, .int v2.2.2.1, .int v2.2.2.2])), (qw, .inl (cW, 16, .inl wd2))]) [0, 1, 2, 3] (by decide) rfl
      generalize H1 = H at hP hS ⊢
      have hP : va_P (dC, dI) vwCl [(h, .inr (1, [.ref qt, .int (nI tn), .ref qk, .ref qs, .ref qm, .int hs])), (qt, .inl (cT, 2000, .inl ft)), (qs, .inr (0, [.ref qw, .int (nI (n + i + 1)), .int v2.1, .int v2.2.1, .int v2.2.2.1, .int v2.2.2.2])), (qw, .inl (cW, 16, .inl wd2))] H := hP
      have hD : va_D A [(h, .inr (1, [.ref qt, .int (nI tn), .ref qk, .ref qs, .ref qm, .int hs])), (qt, .inl (cT, 2000, .inl ft)), (qs, .inr (0, [.ref qw, .int (nI (n + i + 1)), .int v2.1, .int v2.2.1, .int v2.2.2.1, .int v2.2.2.2])), (qw, .inl (cW, 16, .inl wd2))] := hD
      refine lv_iinc (v := nI (i + 1)) (lv' := [(1, .int (nI (i + 1))), (0, .ref h)]) hx hb dX1_add_23 hl (k := 0) rfl (nI_1 i) (by decide) rfl (fun ls hl => ?_)
      refine lv_goto (tgt := 2) hx hb dX1_add_26 (by decide) ?_
      exact ih (wd2, v2) ls H locs ⟨hw, lv_sub hl [0, 1] rfl, hP, hD, hS⟩
  · skip
    intro x ls H locs hI
    obtain ⟨hv, hl, hP, hD, hS⟩ := hI
    refine lv_iload_n hx hb dX1_add_2 rfl (lv_at hl 0 rfl) ?_
    refine lv_aload_n hx hb dX1_add_3 rfl (lv_at hl 1 rfl) ?_
    refine va_get (D := (dC, dI)) (ci := 1) (v := .int (nI tn)) (C := RX1) (T := TX1) (N := 6) hx hb hts (by decide +kernel) hown hK hP 0 rfl rfl 1 (by decide) (hts (.fieldLink RX1 13 "KeySums" "tapeSize" "I") (by decide +kernel)) (fun _ h9 => h9) rfl dX1_add_4 ?_
    refine lv_icmp_ge (tgt := 29) hx hb dX1_add_7 (by decide) (fun hc => ?_) (fun hc => ?_)
    · skip
      refine lv_aload_n hx hb dX1_add_29 rfl (lv_at hl 1 rfl) ?_
      refine lv_iconst (v := 0) hx hb dX1_add_30 (by decide) ?_
      refine kz_top (y := nI 0) nI_0.symm ?_
      refine va_put (D := (dC, dI)) (ci := 1) (v := .int (nI 0)) (ty := .int) (C := RX1) (T := TX1) (N := 6) hx hb hts (by decide +kernel) tyX1 tyX1_ok nmX1 hown hK hP hD hS 0 rfl rfl 1 (by decide) (hts (.fieldLink RX1 13 "KeySums" "tapeSize" "I") (by decide +kernel)) (fun _ h9 => h9) rfl (by decide +kernel) rfl rfl (Nat.le_of_ble_eq_true rfl) dX1_add_31 (fun H locs hP hD hS => ?_)
      have hP : va_P (dC, dI) vwCl [(h, .inr (1, [.ref qt, .int (nI 0), .ref qk, .ref qs, .ref qm, .int hs])), (qt, .inl (cT, 2000, .inl ft)), (qs, .inr (0, [.ref qw, .int (nI (n + tn)), .int x.2.1, .int x.2.2.1, .int x.2.2.2.1, .int x.2.2.2.2])), (qw, .inl (cW, 16, .inl x.1))] H := hP
      have hD : va_D A [(h, .inr (1, [.ref qt, .int (nI 0), .ref qk, .ref qs, .ref qm, .int hs])), (qt, .inl (cT, 2000, .inl ft)), (qs, .inr (0, [.ref qw, .int (nI (n + tn)), .int x.2.1, .int x.2.2.1, .int x.2.2.2.1, .int x.2.2.2.2])), (qw, .inl (cW, 16, .inl x.1))] := hD
      refine lv_aload_n hx hb dX1_add_34 rfl (lv_at hl 1 rfl) ?_
      refine va_get (D := (dC, dI)) (ci := 1) (v := .ref qs) (C := RX1) (T := TX1) (N := 6) hx hb hts (by decide +kernel) hown hK hP 0 rfl rfl 3 (by decide) (hts (.fieldLink RX1 23 "KeySums" "summer" "LKeySums$Summer;") (by decide +kernel)) (fun _ h9 => h9) rfl dX1_add_35 ?_
      refine va_getN (D := (dC, dI)) (ci := 0) (v := .int (nI (n + tn))) (C := RX0) (T := TX0) (N := 6) hx hb hts (by decide +kernel) hown hK hP 2 rfl rfl 1 (by decide) (va_Nw.use rfl hN.1) (fun _ h9 => h9) rfl dX1_add_38 ?_
      have hP9 := hP.sub (ws' := [(h, .inr (1, [.ref qt, .int (nI 0), .ref qk, .ref qs, .ref qm, .int hs])), (qt, .inl (cT, 2000, .inl ft)), (qs, .inr (0, [.ref qw, .int (nI (n + tn)), .int x.2.1, .int x.2.2.1, .int x.2.2.2.1, .int x.2.2.2.2])), (qw, .inl (cW, 16, .inl x.1))]) [0, 1, 2, 3] rfl
      have hD9 := hD.sub (ws' := [(h, .inr (1, [.ref qt, .int (nI 0), .ref qk, .ref qs, .ref qm, .int hs])), (qt, .inl (cT, 2000, .inl ft)), (qs, .inr (0, [.ref qw, .int (nI (n + tn)), .int x.2.1, .int x.2.2.1, .int x.2.2.2.1, .int x.2.2.2.2])), (qw, .inl (cW, 16, .inl x.1))]) [0, 1, 2, 3] (by decide) rfl
      have hK9 := hK.sub (tys' := [(cT, .byte), (cW, .int)]) [0, 1] rfl
      exact W.iret (v := (nI (n + tn))) hx hb hr (fun t ht hW => ⟨⟨(nI (n + tn)), x, rfl, ⟨rfl, hv⟩, by rw [ht]; exact hP9, va_K.moved hW.alike hK9, hD9⟩, hS.F ht⟩) hS.2.2 dX1_add_41
    · skip
      exact absurd (nI_le (Nat.le_refl _) (by omega)) hc

set_option maxHeartbeats 4000000 in
set_option maxRecDepth 100000 in
/-- fill, refused -/
theorem c_fill_no (l : Launch) (dC : Nat → ClassId) (dI : Nat → Nat → Nat) (sz : Nat) (h qt qk qs qw qm : Nat) (cW : ClassId) (tn hs nn : Int32) (v : ks_Q) (wd : Nat → Int32) (y x : Int32) (h1 : y < 0 ∨ 4000 < y) : Met l yX1_fill wsX1_fill ({ frames := 0, cells := 0, slots := 0, locals := 0 }) (va_Pc [.ref h, .int y, .int x] (fun U => U.heap.size = sz ∧ va_P (dC, dI) vwCl [(h, .inr (1, [.ref qt, .int tn, .ref qk, .ref qs, .ref qm, .int hs]))] U.heap ∧ va_K (dC, dI) vwCl [] U ∧ va_D (fun _ => True) [(h, .inr (1, [.ref qt, .int tn, .ref qk, .ref qs, .ref qm, .int hs]))])) (vp_Si (fun r => r = -1)) 0 0 (fun _ => False) := by
  refine Met.ofW (cc := cX1_fill) (maxL := 4) (ret := (some .int)) (by decide) rfl ?_
  intro p e s m args below meth c s₁ B hml hv
  obtain ⟨rfl, hsz, hP, hK, hD0⟩ := hv
  have hx := B.exec
  have hb := B.bytes
  have hr := B.returns
  have hts := atoms_spec (ws := wsX1_fill) B.pre
  have hown : s.vm.findClass RX1 = some m.cls := findClass_of_methodNamed B.named
  have hlocks := B.notSynchronized
  subst hsz
  have hD := hD0.self (sz := s.heap.size)
  generalize hAe : va_A [(h, .inr (1, [.ref qt, .int tn, .ref qk, .ref qs, .ref qm, .int hs]))] s.heap.size = A at hD  ⊢
  have hA : ∀ q : Nat, s.heap.size ≤ q → A q := fun q h => by rw [← hAe]; exact Or.inr h
  have hS : va_S A s.heap s.heap [] := va_S.rf
  have hP : va_P (dC, dI) vwCl [(h, .inr (1, [.ref qt, .int tn, .ref qk, .ref qs, .ref qm, .int hs]))] s.heap := hP
  have hl := lv_entry ([.ref h, .int y, .int x]) (n := 4) (Nat.le_of_ble_eq_true rfl)
  rw [lg_entry_eq]
  generalize (lg_sl ([.ref h, .int y, .int x]) ++ List.replicate (4 - (lg_sl ([.ref h, .int y, .int x])).length) Slot.unset).toArray = ls at hl ⊢
  have hl : lv_has ls 4 [(0, .ref h), (1, .int y), (2, .int x)] := hl
  refine lv_iload_n hx hb dX1_fill_0 rfl (lv_at hl 1 rfl) ?_
  refine lv_if_lt (tgt := 11) hx hb dX1_fill_1 (by decide) (fun hc => ?_) (fun hc => ?_)
  · skip
    refine lv_iconst (v := (-1)) hx hb dX1_fill_11 (by decide) ?_
    exact W.iret (v := (-1)) hx hb hr (fun t ht hW => ⟨(-1), rfl, rfl, ht⟩) (fun q h => by cases h) dX1_fill_12
  · skip
    refine lv_iload_n hx hb dX1_fill_4 rfl (lv_at hl 1 rfl) ?_
    refine lv_sipush (v := 4000) hx hb dX1_fill_5 (by decide) ?_
    refine lv_icmp_le (tgt := 13) hx hb dX1_fill_8 (by decide) (fun hc => ?_) (fun hc => ?_)
    · skip
      exact absurd hc (h1.elim (fun q => absurd q (by assumption)) (fun q => Int32.not_le.mpr q))
    · skip
      refine lv_iconst (v := (-1)) hx hb dX1_fill_11 (by decide) ?_
      exact W.iret (v := (-1)) hx hb hr (fun t ht hW => ⟨(-1), rfl, rfl, ht⟩) (fun q h => by cases h) dX1_fill_12

set_option maxHeartbeats 4000000 in
set_option maxRecDepth 100000 in
/-- fill -/
theorem c_fill_ok (l : Launch) (dC : Nat → ClassId) (dI : Nat → Nat → Nat) (sz : Nat) (tS tT h qt qk qs qw qm : Nat) (cW : ClassId) (tn hs : Int32) (n k : Nat) (v : ks_Q) (wd f : Nat → Int32) (x : Int32) (h1 : k ≤ 4000) (h2 : n + k < 2 ^ 28) (hi : ks_inv f n wd v) (hf : ∀ j, j < k → f (n + j) &&& 255 = (x + 3 * nI j) &&& 255) : Met l yX1_fill wsX1_fill ({ frames := 3, cells := 0, slots := 0, locals := 100 }) (va_Pc [.ref h, .int (nI k), .int x] (fun U => U.heap.size = sz ∧ va_P (dC, dI) vwCl [(h, .inr (1, [.ref qt, .int tn, .ref qk, .ref qs, .ref qm, .int hs])), (qs, .inr (0, [.ref qw, .int (nI n), .int v.1, .int v.2.1, .int v.2.2.1, .int v.2.2.2])), (qw, .inl (cW, 16, .inl wd))] U.heap ∧ va_K (dC, dI) vwCl [(cW, .int)] U ∧ va_D (fun _ => True) [(h, .inr (1, [.ref qt, .int tn, .ref qk, .ref qs, .ref qm, .int hs])), (qs, .inr (0, [.ref qw, .int (nI n), .int v.1, .int v.2.1, .int v.2.2.1, .int v.2.2.2])), (qw, .inl (cW, 16, .inl wd))] ∧ ks_tab tS tT (va_A [(h, .inr (1, [.ref qt, .int tn, .ref qk, .ref qs, .ref qm, .int hs])), (qs, .inr (0, [.ref qw, .int (nI n), .int v.1, .int v.2.1, .int v.2.2.1, .int v.2.2.2])), (qw, .inl (cW, 16, .inl wd))] sz) U U.heap ∧ ks_nw U)) (va_Qi (fun (r : Int32) (u : (Nat → Int32) × ks_Q) => r = nI (n + k) ∧ ks_inv f (n + k) u.1 u.2) (fun (u : (Nat → Int32) × ks_Q) t => kz_B dC dI [(cW, .int)] (va_A [(h, .inr (1, [.ref qt, .int tn, .ref qk, .ref qs, .ref qm, .int hs])), (qs, .inr (0, [.ref qw, .int (nI n), .int v.1, .int v.2.1, .int v.2.2.1, .int v.2.2.2])), (qw, .inl (cW, 16, .inl wd))] sz) [(h, .inr (1, [.ref qt, .int tn, .ref qk, .ref qs, .ref qm, .int hs])), (qs, .inr (0, [.ref qw, .int (nI (n + k)), .int u.2.1, .int u.2.2.1, .int u.2.2.2.1, .int u.2.2.2.2])), (qw, .inl (cW, 16, .inl u.1))] t) (va_A [(h, .inr (1, [.ref qt, .int tn, .ref qk, .ref qs, .ref qm, .int hs])), (qs, .inr (0, [.ref qw, .int (nI n), .int v.1, .int v.2.1, .int v.2.2.1, .int v.2.2.2])), (qw, .inl (cW, 16, .inl wd))] sz)) 0 0 (va_A [(h, .inr (1, [.ref qt, .int tn, .ref qk, .ref qs, .ref qm, .int hs])), (qs, .inr (0, [.ref qw, .int (nI n), .int v.1, .int v.2.1, .int v.2.2.1, .int v.2.2.2])), (qw, .inl (cW, 16, .inl wd))] sz) := by
  refine Met.ofW (cc := cX1_fill) (maxL := 4) (ret := (some .int)) (by decide) rfl ?_
  intro p e s m args below meth c s₁ B hml hv
  obtain ⟨rfl, hsz, hP, hK, hD0, hT, hN⟩ := hv
  have hx := B.exec
  have hb := B.bytes
  have hr := B.returns
  have hts := atoms_spec (ws := wsX1_fill) B.pre
  have hown : s.vm.findClass RX1 = some m.cls := findClass_of_methodNamed B.named
  have hlocks := B.notSynchronized
  subst hsz
  have hD := hD0.self (sz := s.heap.size)
  generalize hAe : va_A [(h, .inr (1, [.ref qt, .int tn, .ref qk, .ref qs, .ref qm, .int hs])), (qs, .inr (0, [.ref qw, .int (nI n), .int v.1, .int v.2.1, .int v.2.2.1, .int v.2.2.2])), (qw, .inl (cW, 16, .inl wd))] s.heap.size = A at hD hT ⊢
  have hA : ∀ q : Nat, s.heap.size ≤ q → A q := fun q h => by rw [← hAe]; exact Or.inr h
  have hS : va_S A s.heap s.heap [] := va_S.rf
  have hP : va_P (dC, dI) vwCl [(h, .inr (1, [.ref qt, .int tn, .ref qk, .ref qs, .ref qm, .int hs])), (qs, .inr (0, [.ref qw, .int (nI n), .int v.1, .int v.2.1, .int v.2.2.1, .int v.2.2.2])), (qw, .inl (cW, 16, .inl wd))] s.heap := hP
  have hl := lv_entry ([.ref h, .int (nI k), .int x]) (n := 4) (Nat.le_of_ble_eq_true rfl)
  rw [lg_entry_eq]
  generalize (lg_sl ([.ref h, .int (nI k), .int x]) ++ List.replicate (4 - (lg_sl ([.ref h, .int (nI k), .int x])).length) Slot.unset).toArray = ls at hl ⊢
  have hl : lv_has ls 4 [(0, .ref h), (1, .int (nI k)), (2, .int x)] := hl
  refine lv_iload_n hx hb dX1_fill_0 rfl (lv_at hl 1 rfl) ?_
  refine lv_if_lt (tgt := 11) hx hb dX1_fill_1 (by decide) (fun hc => ?_) (fun hc => ?_)
  · skip
    exact absurd hc (nI_pos (n := k) (by omega))
  · skip
    refine lv_iload_n hx hb dX1_fill_4 rfl (lv_at hl 1 rfl) ?_
    refine lv_sipush (v := 4000) hx hb dX1_fill_5 (by decide) ?_
    refine lv_icmp_le (tgt := 13) hx hb dX1_fill_8 (by decide) (fun hc => ?_) (fun hc => ?_)
    · skip
      refine lv_iconst (v := 0) hx hb dX1_fill_13 (by decide) ?_
      refine kz_top (y := nI 0) nI_0.symm ?_
      refine lv_istore_n (lv' := [(3, .int (nI 0)), (0, .ref h), (1, .int (nI k)), (2, .int x)]) hx hb dX1_fill_14 rfl hl (by decide) rfl (fun ls hl => ?_)
      refine kz_loop (σ := (Nat → Int32) × ks_Q) (fun i x1 ls H locs => ks_inv f (n + i) x1.1 x1.2 ∧ lv_has ls 4 [(3, .int (nI i)), (0, .ref h), (1, .int (nI k)), (2, .int x)] ∧ va_P (dC, dI) vwCl [(h, .inr (1, [.ref qt, .int tn, .ref qk, .ref qs, .ref qm, .int hs])), (qs, .inr (0, [.ref qw, .int (nI (n + i)), .int x1.2.1, .int x1.2.2.1, .int x1.2.2.2.1, .int x1.2.2.2.2])), (qw, .inl (cW, 16, .inl x1.1))] H ∧ va_D A [(h, .inr (1, [.ref qt, .int tn, .ref qk, .ref qs, .ref qm, .int hs])), (qs, .inr (0, [.ref qw, .int (nI (n + i)), .int x1.2.1, .int x1.2.2.1, .int x1.2.2.2.1, .int x1.2.2.2.2])), (qw, .inl (cW, 16, .inl x1.1))] ∧ va_S A s.heap H locs) k ?_ ?_ 0 (wd, v) ls _ _ (Nat.zero_le _) ⟨hi, lv_sub hl [0, 1, 2, 3] rfl, hP, hD, hS⟩
      · skip
        intro i x1 ls H locs hlt hI ih
        obtain ⟨hv, hl, hP, hD, hS⟩ := hI
        refine lv_iload_n hx hb dX1_fill_15 rfl (lv_at hl 0 rfl) ?_
        refine lv_iload_n hx hb dX1_fill_16 rfl (lv_at hl 2 rfl) ?_
        refine lv_icmp_ge (tgt := 38) hx hb dX1_fill_17 (by decide) (fun hc => ?_) (fun hc => ?_)
        · skip
          exact absurd hc (nI_ge hlt (by omega))
        · skip
          refine lv_aload_n hx hb dX1_fill_20 rfl (lv_at hl 1 rfl) ?_
          refine va_get (D := (dC, dI)) (ci := 1) (v := .ref qs) (C := RX1) (T := TX1) (N := 6) hx hb hts (by decide +kernel) hown hK hP 0 rfl rfl 3 (by decide) (hts (.fieldLink RX1 23 "KeySums" "summer" "LKeySums$Summer;") (by decide +kernel)) (fun _ h9 => h9) rfl dX1_fill_21 ?_
          refine lv_iload_n hx hb dX1_fill_24 rfl (lv_at hl 3 rfl) ?_
          refine lv_iconst (v := 3) hx hb dX1_fill_25 (by decide) ?_
          refine lv_iload_n hx hb dX1_fill_26 rfl (lv_at hl 0 rfl) ?_
          refine lv_imul hx hb dX1_fill_27 ?_
          refine lv_iadd hx hb dX1_fill_28 ?_
          have hPc := hP.sub (ws' := [(qs, .inr (0, [.ref qw, .int (nI (n + i)), .int x1.2.1, .int x1.2.2.1, .int x1.2.2.2.1, .int x1.2.2.2.2])), (qw, .inl (cW, 16, .inl x1.1))]) [1, 2] rfl
          have hDc := hD.sub (ws' := [(qs, .inr (0, [.ref qw, .int (nI (n + i)), .int x1.2.1, .int x1.2.2.1, .int x1.2.2.2.1, .int x1.2.2.2.2])), (qw, .inl (cW, 16, .inl x1.1))]) [1, 2] (by decide) rfl
          have hKc := hK.sub (tys' := [(cW, .int)]) [0] rfl
          have hFc := va_free (wc := [(qs, .inr (0, [.ref qw, .int (nI (n + i)), .int x1.2.1, .int x1.2.2.1, .int x1.2.2.2.1, .int x1.2.2.2.2])), (qw, .inl (cW, 16, .inl x1.1))]) hD hS hA [1, 2] rfl
          refine va_callv (va_runVN (As := [.int (x + (3 * (nI i)))]) (rest := []) ⟨hx, hb, hml, hown, hts⟩ (c_take l dC dI H.size tS tT qs qw cW (n + i) x1.2 x1.1 f (x + 3 * nI i) (by omega) hv (hf i hlt)) ⟨va_cnB 1 hts gX1_fill_X0_take_n39 rfl rfl rfl hN.2.2.2.2.2.2.1 (hts (.initialized RX0) (by decide +kernel)) (by decide +kernel) ⟨Nat.le_of_ble_eq_true rfl, Nat.le_of_ble_eq_true rfl⟩, hts (.instanceMethod yX0_take) (by decide +kernel), hts (.selects RX0 yX0_take yX0_take) (by decide +kernel)⟩ ⟨fun a U g mk q => by obtain ⟨q0, q1, qP, qK, qD, qx0⟩ := q; exact ⟨q0, q1, qP, va_K.moved (u := U) (U := U.calling g mk a) (Vm.Alike.refl U.vm) qK, qD, ks_tab.moved (u := U) (U := U.calling g mk a) (Vm.Alike.refl U.vm) qx0⟩, va_recv hKc hPc (ci := 0) (q0 := 0) rfl rfl, fun U hU hW => ⟨rfl, by rw [hU], by rw [hU]; exact hPc, va_K.moved hW.alike hKc, hDc.weaken (fun _ _ _ _ => trivial), hT.call hS hFc hU hW.alike⟩⟩ rfl rfl hl.1 rfl (lv_room (Nat.le_of_ble_eq_true rfl)) dX1_fill_29 ⟨Nat.zero_le _, Nat.zero_le _⟩) hS (fun q _ h => hFc q h) hFc (fun u t H1 locs ht hvm hw hB hz1 hk1 hS => ?_)
          obtain ⟨wd2, v2⟩ := u
          obtain ⟨hP1, hK1, hD1⟩ := hB
          rw [ht] at hP1
          have hK1 := va_K.moved hvm.symm hK1
          try dsimp only at hw
          obtain ⟨hP, hD⟩ := va_join (wr := [(h, .inr (1, [.ref qt, .int tn, .ref qk, .ref qs, .ref qm, .int hs]))]) (w1 := [(qs, .inr (0, [.ref qw, .int (nI (n + i + 1)), .int v2.1, .int v2.2.1, .int v2.2.2.1, .int v2.2.2.2])), (qw, .inl (cW, 16, .inl wd2))]) hP hD [1, 2] [0] rfl rfl (by decide) (by decide) hk1 hFc hP1 hD1
          have hP := hP.sub (ws' := [(h, .inr (1, [.ref qt, .int tn, .ref qk, .ref qs, .ref qm, .int hs])), (qs, .inr (0, [.ref qw, .int (nI (n + i + 1)), .int v2.1, .int v2.2.1, .int v2.2.2.1, .int v2.2.2.2])), (qw, .inl (cW, 16, .inl wd2))]) [0, 1, 2] rfl
          have hD := hD.sub (ws' := [(h, .inr (1, [.ref qt, .int tn, .ref qk, .ref qs, .ref qm, .int hs])), (qs, .inr (0, [.ref qw, .int (nI (n + i + 1)), .int v2.1, .int v2.2.1, .int v2.2.2.1, .int v2.2.2.2])), (qw, .inl (cW, 16, .inl wd2))]) [0, 1, 2] (by decide) rfl
          generalize H1 = H at hP hS ⊢
          have hP : va_P (dC, dI) vwCl [(h, .inr (1, [.ref qt, .int tn, .ref qk, .ref qs, .ref qm, .int hs])), (qs, .inr (0, [.ref qw, .int (nI (n + i + 1)), .int v2.1, .int v2.2.1, .int v2.2.2.1, .int v2.2.2.2])), (qw, .inl (cW, 16, .inl wd2))] H := hP
          have hD : va_D A [(h, .inr (1, [.ref qt, .int tn, .ref qk, .ref qs, .ref qm, .int hs])), (qs, .inr (0, [.ref qw, .int (nI (n + i + 1)), .int v2.1, .int v2.2.1, .int v2.2.2.1, .int v2.2.2.2])), (qw, .inl (cW, 16, .inl wd2))] := hD
          refine lv_iinc (v := nI (i + 1)) (lv' := [(3, .int (nI (i + 1))), (0, .ref h), (1, .int (nI k)), (2, .int x)]) hx hb dX1_fill_32 hl (k := 0) rfl (nI_1 i) (by decide) rfl (fun ls hl => ?_)
          refine lv_goto (tgt := 15) hx hb dX1_fill_35 (by decide) ?_
          exact ih (wd2, v2) ls H locs ⟨hw, lv_sub hl [0, 1, 2, 3] rfl, hP, hD, hS⟩
      · skip
        intro x1 ls H locs hI
        obtain ⟨hv, hl, hP, hD, hS⟩ := hI
        refine lv_iload_n hx hb dX1_fill_15 rfl (lv_at hl 0 rfl) ?_
        refine lv_iload_n hx hb dX1_fill_16 rfl (lv_at hl 2 rfl) ?_
        refine lv_icmp_ge (tgt := 38) hx hb dX1_fill_17 (by decide) (fun hc => ?_) (fun hc => ?_)
        · skip
          refine lv_aload_n hx hb dX1_fill_38 rfl (lv_at hl 1 rfl) ?_
          refine va_get (D := (dC, dI)) (ci := 1) (v := .ref qs) (C := RX1) (T := TX1) (N := 6) hx hb hts (by decide +kernel) hown hK hP 0 rfl rfl 3 (by decide) (hts (.fieldLink RX1 23 "KeySums" "summer" "LKeySums$Summer;") (by decide +kernel)) (fun _ h9 => h9) rfl dX1_fill_39 ?_
          refine va_getN (D := (dC, dI)) (ci := 0) (v := .int (nI (n + k))) (C := RX0) (T := TX0) (N := 6) hx hb hts (by decide +kernel) hown hK hP 1 rfl rfl 1 (by decide) (va_Nw.use rfl hN.1) (fun _ h9 => h9) rfl dX1_fill_42 ?_
          have hP9 := hP.sub (ws' := [(h, .inr (1, [.ref qt, .int tn, .ref qk, .ref qs, .ref qm, .int hs])), (qs, .inr (0, [.ref qw, .int (nI (n + k)), .int x1.2.1, .int x1.2.2.1, .int x1.2.2.2.1, .int x1.2.2.2.2])), (qw, .inl (cW, 16, .inl x1.1))]) [0, 1, 2] rfl
          have hD9 := hD.sub (ws' := [(h, .inr (1, [.ref qt, .int tn, .ref qk, .ref qs, .ref qm, .int hs])), (qs, .inr (0, [.ref qw, .int (nI (n + k)), .int x1.2.1, .int x1.2.2.1, .int x1.2.2.2.1, .int x1.2.2.2.2])), (qw, .inl (cW, 16, .inl x1.1))]) [0, 1, 2] (by decide) rfl
          have hK9 := hK.sub (tys' := [(cW, .int)]) [0] rfl
          exact W.iret (v := (nI (n + k))) hx hb hr (fun t ht hW => ⟨⟨(nI (n + k)), x1, rfl, ⟨rfl, hv⟩, by rw [ht]; exact hP9, va_K.moved hW.alike hK9, hD9⟩, hS.F ht⟩) hS.2.2 dX1_fill_45
        · skip
          exact absurd (nI_le (Nat.le_refl _) (by omega)) hc
    · skip
      exact absurd (nI_le (a := k) (b := 4000) h1 (by decide)) hc
