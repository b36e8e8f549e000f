set_option maxHeartbeats 4000000 in
set_option maxRecDepth 100000 in
/-- sum -/
theorem c_sum_n (l : Launch) (dC : Nat → ClassId) (dI : Nat → Nat → Nat) (sz : Nat) (tS tT h qt qk qs qw qm : Nat) (cK cW cM : ClassId) (tn hs : Int32) (n : Nat) (v : ks_Q) (fk wd fs f : Nat → Int32) (y : Int32) (h2 : n + 16 < 2 ^ 28) (hi : ks_inv f n wd v) (hz : y = 0) : Met l yX1_sum wsX1_sum ({ frames := 4, cells := 0, slots := 0, locals := 160 }) (va_Pc [.ref h, .int y] (fun U => U.heap.size = sz ∧ va_P (dC, dI) vwCl [(h, .inr (1, [.ref qt, .int tn, .ref qk, .ref qs, .ref qm, .int hs])), (qk, .inl (cK, 16, .inl fk)), (qs, .inr (0, [.ref qw, .int (nI n), .int v.1, .int v.2.1, .int v.2.2.1, .int v.2.2.2])), (qw, .inl (cW, 16, .inl wd)), (qm, .inl (cM, 4, .inl fs))] U.heap ∧ va_K (dC, dI) vwCl [(cK, .byte), (cW, .int), (cM, .int)] U ∧ va_D (fun _ => True) [(h, .inr (1, [.ref qt, .int tn, .ref qk, .ref qs, .ref qm, .int hs])), (qk, .inl (cK, 16, .inl fk)), (qs, .inr (0, [.ref qw, .int (nI n), .int v.1, .int v.2.1, .int v.2.2.1, .int v.2.2.2])), (qw, .inl (cW, 16, .inl wd)), (qm, .inl (cM, 4, .inl fs))] ∧ ks_tab tS tT (va_A [(h, .inr (1, [.ref qt, .int tn, .ref qk, .ref qs, .ref qm, .int hs])), (qk, .inl (cK, 16, .inl fk)), (qs, .inr (0, [.ref qw, .int (nI n), .int v.1, .int v.2.1, .int v.2.2.1, .int v.2.2.2])), (qw, .inl (cW, 16, .inl wd)), (qm, .inl (cM, 4, .inl fs))] sz) U U.heap ∧ ks_nw U)) (va_Qi (fun (r : Int32) (u : Nat → Int32) => r = nI n) (fun (u : Nat → Int32) t => kz_B dC dI [(cK, .byte), (cW, .int), (cM, .int)] (va_A [(h, .inr (1, [.ref qt, .int tn, .ref qk, .ref qs, .ref qm, .int hs])), (qk, .inl (cK, 16, .inl fk)), (qs, .inr (0, [.ref qw, .int (nI n), .int v.1, .int v.2.1, .int v.2.2.1, .int v.2.2.2])), (qw, .inl (cW, 16, .inl wd)), (qm, .inl (cM, 4, .inl fs))] sz) [(h, .inr (1, [.ref qt, .int tn, .ref qk, .ref qs, .ref qm, .int 1])), (qk, .inl (cK, 16, .inl fk)), (qs, .inr (0, [.ref qw, .int (nI 0), .int 1732584193, .int (-271733879), .int (-1732584194), .int 271733878])), (qw, .inl (cW, 16, .inl u)), (qm, .inl (cM, 4, .inl (upd (upd (upd (upd fs 0 (ks_sum f n).1) 1 (ks_sum f n).2.1) 2 (ks_sum f n).2.2.1) 3 (ks_sum f n).2.2.2)))] t) (va_A [(h, .inr (1, [.ref qt, .int tn, .ref qk, .ref qs, .ref qm, .int hs])), (qk, .inl (cK, 16, .inl fk)), (qs, .inr (0, [.ref qw, .int (nI n), .int v.1, .int v.2.1, .int v.2.2.1, .int v.2.2.2])), (qw, .inl (cW, 16, .inl wd)), (qm, .inl (cM, 4, .inl fs))] sz)) 0 0 (va_A [(h, .inr (1, [.ref qt, .int tn, .ref qk, .ref qs, .ref qm, .int hs])), (qk, .inl (cK, 16, .inl fk)), (qs, .inr (0, [.ref qw, .int (nI n), .int v.1, .int v.2.1, .int v.2.2.1, .int v.2.2.2])), (qw, .inl (cW, 16, .inl wd)), (qm, .inl (cM, 4, .inl fs))] sz) := by
  refine Met.ofW (cc := cX1_sum) (maxL := 4) (ret := (some .int)) (by decide) rfl ?_
  intro p e s m args below meth c s₁ B hml hv
  obtain ⟨rfl, hsz, hP, hK, hD0, hT, hN⟩ := hv
  have hx := B.exec
  have hb := B.bytes
  have hr := B.returns
  have hts := atoms_spec (ws := wsX1_sum) B.pre
  have hown : s.vm.findClass RX1 = some m.cls := findClass_of_methodNamed B.named
  have hlocks := B.notSynchronized
  subst hsz
  have hD := hD0.self (sz := s.heap.size)
  generalize hAe : va_A [(h, .inr (1, [.ref qt, .int tn, .ref qk, .ref qs, .ref qm, .int hs])), (qk, .inl (cK, 16, .inl fk)), (qs, .inr (0, [.ref qw, .int (nI n), .int v.1, .int v.2.1, .int v.2.2.1, .int v.2.2.2])), (qw, .inl (cW, 16, .inl wd)), (qm, .inl (cM, 4, .inl fs))] s.heap.size = A at hD hT ⊢
  have hA : ∀ q : Nat, s.heap.size ≤ q → A q := fun q h => by rw [← hAe]; exact Or.inr h
  have hS : va_S A s.heap s.heap [] := va_S.rf
  have hP : va_P (dC, dI) vwCl [(h, .inr (1, [.ref qt, .int tn, .ref qk, .ref qs, .ref qm, .int hs])), (qk, .inl (cK, 16, .inl fk)), (qs, .inr (0, [.ref qw, .int (nI n), .int v.1, .int v.2.1, .int v.2.2.1, .int v.2.2.2])), (qw, .inl (cW, 16, .inl wd)), (qm, .inl (cM, 4, .inl fs))] s.heap := hP
  have hl := lv_entry ([.ref h, .int y]) (n := 4) (Nat.le_of_ble_eq_true rfl)
  rw [lg_entry_eq]
  generalize (lg_sl ([.ref h, .int y]) ++ List.replicate (4 - (lg_sl ([.ref h, .int y])).length) Slot.unset).toArray = ls at hl ⊢
  have hl : lv_has ls 4 [(0, .ref h), (1, .int y)] := hl
  refine lv_aload_n hx hb dX1_sum_0 rfl (lv_at hl 0 rfl) ?_
  refine va_get (D := (dC, dI)) (ci := 1) (v := .ref qs) (C := RX1) (T := TX1) (N := 6) hx hb hts (by decide +kernel) hown hK hP 0 rfl rfl 3 (by decide) (hts (.fieldLink RX1 23 "KeySums" "summer" "LKeySums$Summer;") (by decide +kernel)) (fun _ h9 => h9) rfl dX1_sum_1 ?_
  refine va_getN (D := (dC, dI)) (ci := 0) (v := .int (nI n)) (C := RX0) (T := TX0) (N := 6) hx hb hts (by decide +kernel) hown hK hP 2 rfl rfl 1 (by decide) (va_Nw.use rfl hN.1) (fun _ h9 => h9) rfl dX1_sum_4 ?_
  refine lv_istore_n (lv' := [(2, .int (nI n)), (0, .ref h), (1, .int y)]) hx hb dX1_sum_7 rfl hl (by decide) rfl (fun ls hl => ?_)
  refine lv_iload_n hx hb dX1_sum_8 rfl (lv_at hl 2 rfl) ?_
  refine lv_if_eq (tgt := 39) hx hb dX1_sum_9 (by decide) (fun hc => ?_) (fun hc => ?_)
  · skip
    refine lv_aload_n hx hb dX1_sum_39 rfl (lv_at hl 1 rfl) ?_
    refine va_get (D := (dC, dI)) (ci := 1) (v := .ref qs) (C := RX1) (T := TX1) (N := 6) hx hb hts (by decide +kernel) hown hK hP 0 rfl rfl 3 (by decide) (hts (.fieldLink RX1 23 "KeySums" "summer" "LKeySums$Summer;") (by decide +kernel)) (fun _ h9 => h9) rfl dX1_sum_40 ?_
    have hPc := hP.sub (ws' := [(qs, .inr (0, [.ref qw, .int (nI n), .int v.1, .int v.2.1, .int v.2.2.1, .int v.2.2.2])), (qw, .inl (cW, 16, .inl wd))]) [2, 3] rfl
    have hDc := hD.sub (ws' := [(qs, .inr (0, [.ref qw, .int (nI n), .int v.1, .int v.2.1, .int v.2.2.1, .int v.2.2.2])), (qw, .inl (cW, 16, .inl wd))]) [2, 3] (by decide) rfl
    have hKc := hK.sub (tys' := [(cW, .int)]) [1] rfl
    have hFc := va_free (wc := [(qs, .inr (0, [.ref qw, .int (nI n), .int v.1, .int v.2.1, .int v.2.2.1, .int v.2.2.2])), (qw, .inl (cW, 16, .inl wd))]) hD hS hA [2, 3] rfl
    refine va_callv (va_runVN (As := []) (rest := []) ⟨hx, hb, hml, hown, hts⟩ (c_close l dC dI s.heap.size tS tT qs qw cW n v wd f (by omega) hi) ⟨va_cnB 0 hts gX1_sum_X0_close_n46 rfl rfl rfl hN.2.2.2.2.2.2.2.1 (hts (.initialized RX0) (by decide +kernel)) (by decide +kernel) ⟨Nat.le_of_ble_eq_true rfl, Nat.le_of_ble_eq_true rfl⟩, hts (.instanceMethod yX0_close) (by decide +kernel), hts (.selects RX0 yX0_close yX0_close) (by decide +kernel)⟩ ⟨fun a U g mk q => by obtain ⟨q0, q1, qP, qK, qD, qx0⟩ := q; exact ⟨q0, q1, qP, va_K.moved (u := U) (U := U.calling g mk a) (Vm.Alike.refl U.vm) qK, qD, ks_tab.moved (u := U) (U := U.calling g mk a) (Vm.Alike.refl U.vm) qx0⟩, va_recv hKc hPc (ci := 0) (q0 := 0) rfl rfl, fun U hU hW => ⟨rfl, by rw [hU], by rw [hU]; exact hPc, va_K.moved hW.alike hKc, hDc.weaken (fun _ _ _ _ => trivial), hT.call hS hFc hU hW.alike⟩⟩ rfl rfl hl.1 rfl (lv_room (Nat.le_of_ble_eq_true rfl)) dX1_sum_43 ⟨Nat.zero_le _, Nat.zero_le _⟩) hS (fun q _ h => hFc q h) hFc (fun u t H1 locs ht hvm hw hB hz1 hk1 hS => ?_)
    obtain ⟨wd3, v2⟩ := u
    obtain ⟨hP1, hK1, hD1⟩ := hB
    rw [ht] at hP1
    have hK1 := va_K.moved hvm.symm hK1
    try dsimp only at hw
    obtain ⟨hP, hD⟩ := va_join (wr := [(h, .inr (1, [.ref qt, .int tn, .ref qk, .ref qs, .ref qm, .int hs])), (qk, .inl (cK, 16, .inl fk)), (qm, .inl (cM, 4, .inl fs))]) (w1 := [(qs, .inr (0, [.ref qw, .int (nI (ks_end n + 8)), .int v2.1, .int v2.2.1, .int v2.2.2.1, .int v2.2.2.2])), (qw, .inl (cW, 16, .inl wd3))]) hP hD [2, 3] [0, 1, 4] rfl rfl (by decide) (by decide) hk1 hFc hP1 hD1
    have hP := hP.sub (ws' := [(h, .inr (1, [.ref qt, .int tn, .ref qk, .ref qs, .ref qm, .int hs])), (qk, .inl (cK, 16, .inl fk)), (qs, .inr (0, [.ref qw, .int (nI (ks_end n + 8)), .int v2.1, .int v2.2.1, .int v2.2.2.1, .int v2.2.2.2])), (qw, .inl (cW, 16, .inl wd3)), (qm, .inl (cM, 4, .inl fs))]) [0, 1, 3, 4, 2] rfl
    have hD := hD.sub (ws' := [(h, .inr (1, [.ref qt, .int tn, .ref qk, .ref qs, .ref qm, .int hs])), (qk, .inl (cK, 16, .inl fk)), (qs, .inr (0, [.ref qw, .int (nI (ks_end n + 8)), .int v2.1, .int v2.2.1, .int v2.2.2.1, .int v2.2.2.2])), (qw, .inl (cW, 16, .inl wd3)), (qm, .inl (cM, 4, .inl fs))]) [0, 1, 3, 4, 2] (by decide) rfl
    generalize H1 = H at hP hS ⊢
    have hP : va_P (dC, dI) vwCl [(h, .inr (1, [.ref qt, .int tn, .ref qk, .ref qs, .ref qm, .int hs])), (qk, .inl (cK, 16, .inl fk)), (qs, .inr (0, [.ref qw, .int (nI (ks_end n + 8)), .int v2.1, .int v2.2.1, .int v2.2.2.1, .int v2.2.2.2])), (qw, .inl (cW, 16, .inl wd3)), (qm, .inl (cM, 4, .inl fs))] H := hP
    have hD : va_D A [(h, .inr (1, [.ref qt, .int tn, .ref qk, .ref qs, .ref qm, .int hs])), (qk, .inl (cK, 16, .inl fk)), (qs, .inr (0, [.ref qw, .int (nI (ks_end n + 8)), .int v2.1, .int v2.2.1, .int v2.2.2.1, .int v2.2.2.2])), (qw, .inl (cW, 16, .inl wd3)), (qm, .inl (cM, 4, .inl fs))] := hD
    subst hw
    have hP : va_P (dC, dI) vwCl [(h, .inr (1, [.ref qt, .int tn, .ref qk, .ref qs, .ref qm, .int hs])), (qk, .inl (cK, 16, .inl fk)), (qs, .inr (0, [.ref qw, .int (nI (ks_end n + 8)), .int ((ks_sum f n).1), .int ((ks_sum f n).2.1), .int ((ks_sum f n).2.2.1), .int ((ks_sum f n).2.2.2)])), (qw, .inl (cW, 16, .inl wd3)), (qm, .inl (cM, 4, .inl fs))] H := hP
    have hD : va_D A [(h, .inr (1, [.ref qt, .int tn, .ref qk, .ref qs, .ref qm, .int hs])), (qk, .inl (cK, 16, .inl fk)), (qs, .inr (0, [.ref qw, .int (nI (ks_end n + 8)), .int ((ks_sum f n).1), .int ((ks_sum f n).2.1), .int ((ks_sum f n).2.2.1), .int ((ks_sum f n).2.2.2)])), (qw, .inl (cW, 16, .inl wd3)), (qm, .inl (cM, 4, .inl fs))] := hD
    refine lv_aload_n hx hb dX1_sum_46 rfl (lv_at hl 1 rfl) ?_
    refine va_get (D := (dC, dI)) (ci := 1) (v := .ref qm) (C := RX1) (T := TX1) (N := 6) hx hb hts (by decide +kernel) hown hK hP 0 rfl rfl 4 (by decide) (hts (.fieldLink RX1 27 "KeySums" "keptSum" "[I") (by decide +kernel)) (fun _ h9 => h9) rfl dX1_sum_47 ?_
    refine lv_iconst (v := 0) hx hb dX1_sum_50 (by decide) ?_
    refine kz_top (y := nI 0) (by decide) ?_
    refine lv_aload_n hx hb dX1_sum_51 rfl (lv_at hl 1 rfl) ?_
    refine va_get (D := (dC, dI)) (ci := 1) (v := .ref qs) (C := RX1) (T := TX1) (N := 6) hx hb hts (by decide +kernel) hown hK hP 0 rfl rfl 3 (by decide) (hts (.fieldLink RX1 23 "KeySums" "summer" "LKeySums$Summer;") (by decide +kernel)) (fun _ h9 => h9) rfl dX1_sum_52 ?_
    refine va_getN (D := (dC, dI)) (ci := 0) (v := .int ((ks_sum f n).1)) (C := RX0) (T := TX0) (N := 6) hx hb hts (by decide +kernel) hown hK hP 2 rfl rfl 2 (by decide) (va_Nw.use rfl hN.2.1) (fun _ h9 => h9) rfl dX1_sum_55 ?_
    refine kz_iast (j := 0) hx hb hK hP hD hS 4 2 rfl rfl (show 0 < 4 by decide) (by decide) dX1_sum_58 (fun H locs hP hD hS => ?_)
    have hP : va_P (dC, dI) vwCl [(h, .inr (1, [.ref qt, .int tn, .ref qk, .ref qs, .ref qm, .int hs])), (qk, .inl (cK, 16, .inl fk)), (qs, .inr (0, [.ref qw, .int (nI (ks_end n + 8)), .int ((ks_sum f n).1), .int ((ks_sum f n).2.1), .int ((ks_sum f n).2.2.1), .int ((ks_sum f n).2.2.2)])), (qw, .inl (cW, 16, .inl wd3)), (qm, .inl (cM, 4, .inl (upd fs 0 ((ks_sum f n).1))))] H := hP
    have hD : va_D A [(h, .inr (1, [.ref qt, .int tn, .ref qk, .ref qs, .ref qm, .int hs])), (qk, .inl (cK, 16, .inl fk)), (qs, .inr (0, [.ref qw, .int (nI (ks_end n + 8)), .int ((ks_sum f n).1), .int ((ks_sum f n).2.1), .int ((ks_sum f n).2.2.1), .int ((ks_sum f n).2.2.2)])), (qw, .inl (cW, 16, .inl wd3)), (qm, .inl (cM, 4, .inl (upd fs 0 ((ks_sum f n).1))))] := hD
    refine lv_aload_n hx hb dX1_sum_59 rfl (lv_at hl 1 rfl) ?_
    refine va_get (D := (dC, dI)) (ci := 1) (v := .ref qm) (C := RX1) (T := TX1) (N := 6) hx hb hts (by decide +kernel) hown hK hP 0 rfl rfl 4 (by decide) (hts (.fieldLink RX1 27 "KeySums" "keptSum" "[I") (by decide +kernel)) (fun _ h9 => h9) rfl dX1_sum_60 ?_
    refine lv_iconst (v := 1) hx hb dX1_sum_63 (by decide) ?_
    refine kz_top (y := nI 1) (by decide) ?_
    refine lv_aload_n hx hb dX1_sum_64 rfl (lv_at hl 1 rfl) ?_
    refine va_get (D := (dC, dI)) (ci := 1) (v := .ref qs) (C := RX1) (T := TX1) (N := 6) hx hb hts (by decide +kernel) hown hK hP 0 rfl rfl 3 (by decide) (hts (.fieldLink RX1 23 "KeySums" "summer" "LKeySums$Summer;") (by decide +kernel)) (fun _ h9 => h9) rfl dX1_sum_65 ?_
    refine va_getN (D := (dC, dI)) (ci := 0) (v := .int ((ks_sum f n).2.1)) (C := RX0) (T := TX0) (N := 6) hx hb hts (by decide +kernel) hown hK hP 2 rfl rfl 3 (by decide) (va_Nw.use rfl hN.2.2.1) (fun _ h9 => h9) rfl dX1_sum_68 ?_
    refine kz_iast (j := 1) hx hb hK hP hD hS 4 2 rfl rfl (show 1 < 4 by decide) (by decide) dX1_sum_71 (fun H locs hP hD hS => ?_)
    have hP : va_P (dC, dI) vwCl [(h, .inr (1, [.ref qt, .int tn, .ref qk, .ref qs, .ref qm, .int hs])), (qk, .inl (cK, 16, .inl fk)), (qs, .inr (0, [.ref qw, .int (nI (ks_end n + 8)), .int ((ks_sum f n).1), .int ((ks_sum f n).2.1), .int ((ks_sum f n).2.2.1), .int ((ks_sum f n).2.2.2)])), (qw, .inl (cW, 16, .inl wd3)), (qm, .inl (cM, 4, .inl (upd (upd fs 0 ((ks_sum f n).1)) 1 ((ks_sum f n).2.1))))] H := hP
    have hD : va_D A [(h, .inr (1, [.ref qt, .int tn, .ref qk, .ref qs, .ref qm, .int hs])), (qk, .inl (cK, 16, .inl fk)), (qs, .inr (0, [.ref qw, .int (nI (ks_end n + 8)), .int ((ks_sum f n).1), .int ((ks_sum f n).2.1), .int ((ks_sum f n).2.2.1), .int ((ks_sum f n).2.2.2)])), (qw, .inl (cW, 16, .inl wd3)), (qm, .inl (cM, 4, .inl (upd (upd fs 0 ((ks_sum f n).1)) 1 ((ks_sum f n).2.1))))] := hD
    refine lv_aload_n hx hb dX1_sum_72 rfl (lv_at hl 1 rfl) ?_
    refine va_get (D := (dC, dI)) (ci := 1) (v := .ref qm) (C := RX1) (T := TX1) (N := 6) hx hb hts (by decide +kernel) hown hK hP 0 rfl rfl 4 (by decide) (hts (.fieldLink RX1 27 "KeySums" "keptSum" "[I") (by decide +kernel)) (fun _ h9 => h9) rfl dX1_sum_73 ?_
    refine lv_iconst (v := 2) hx hb dX1_sum_76 (by decide) ?_
    refine kz_top (y := nI 2) (by decide) ?_
    refine lv_aload_n hx hb dX1_sum_77 rfl (lv_at hl 1 rfl) ?_
    refine va_get (D := (dC, dI)) (ci := 1) (v := .ref qs) (C := RX1) (T := TX1) (N := 6) hx hb hts (by decide +kernel) hown hK hP 0 rfl rfl 3 (by decide) (hts (.fieldLink RX1 23 "KeySums" "summer" "LKeySums$Summer;") (by decide +kernel)) (fun _ h9 => h9) rfl dX1_sum_78 ?_
    refine va_getN (D := (dC, dI)) (ci := 0) (v := .int ((ks_sum f n).2.2.1)) (C := RX0) (T := TX0) (N := 6) hx hb hts (by decide +kernel) hown hK hP 2 rfl rfl 4 (by decide) (va_Nw.use rfl hN.2.2.2.1) (fun _ h9 => h9) rfl dX1_sum_81 ?_
    refine kz_iast (j := 2) hx hb hK hP hD hS 4 2 rfl rfl (show 2 < 4 by decide) (by decide) dX1_sum_84 (fun H locs hP hD hS => ?_)
    have hP : va_P (dC, dI) vwCl [(h, .inr (1, [.ref qt, .int tn, .ref qk, .ref qs, .ref qm, .int hs])), (qk, .inl (cK, 16, .inl fk)), (qs, .inr (0, [.ref qw, .int (nI (ks_end n + 8)), .int ((ks_sum f n).1), .int ((ks_sum f n).2.1), .int ((ks_sum f n).2.2.1), .int ((ks_sum f n).2.2.2)])), (qw, .inl (cW, 16, .inl wd3)), (qm, .inl (cM, 4, .inl (upd (upd (upd fs 0 ((ks_sum f n).1)) 1 ((ks_sum f n).2.1)) 2 ((ks_sum f n).2.2.1))))] H := hP
    have hD : va_D A [(h, .inr (1, [.ref qt, .int tn, .ref qk, .ref qs, .ref qm, .int hs])), (qk, .inl (cK, 16, .inl fk)), (qs, .inr (0, [.ref qw, .int (nI (ks_end n + 8)), .int ((ks_sum f n).1), .int ((ks_sum f n).2.1), .int ((ks_sum f n).2.2.1), .int ((ks_sum f n).2.2.2)])), (qw, .inl (cW, 16, .inl wd3)), (qm, .inl (cM, 4, .inl (upd (upd (upd fs 0 ((ks_sum f n).1)) 1 ((ks_sum f n).2.1)) 2 ((ks_sum f n).2.2.1))))] := hD
    refine lv_aload_n hx hb dX1_sum_85 rfl (lv_at hl 1 rfl) ?_
    refine va_get (D := (dC, dI)) (ci := 1) (v := .ref qm) (C := RX1) (T := TX1) (N := 6) hx hb hts (by decide +kernel) hown hK hP 0 rfl rfl 4 (by decide) (hts (.fieldLink RX1 27 "KeySums" "keptSum" "[I") (by decide +kernel)) (fun _ h9 => h9) rfl dX1_sum_86 ?_
    refine lv_iconst (v := 3) hx hb dX1_sum_89 (by decide) ?_
    refine kz_top (y := nI 3) (by decide) ?_
    refine lv_aload_n hx hb dX1_sum_90 rfl (lv_at hl 1 rfl) ?_
    refine va_get (D := (dC, dI)) (ci := 1) (v := .ref qs) (C := RX1) (T := TX1) (N := 6) hx hb hts (by decide +kernel) hown hK hP 0 rfl rfl 3 (by decide) (hts (.fieldLink RX1 23 "KeySums" "summer" "LKeySums$Summer;") (by decide +kernel)) (fun _ h9 => h9) rfl dX1_sum_91 ?_
    refine va_getN (D := (dC, dI)) (ci := 0) (v := .int ((ks_sum f n).2.2.2)) (C := RX0) (T := TX0) (N := 6) hx hb hts (by decide +kernel) hown hK hP 2 rfl rfl 5 (by decide) (va_Nw.use rfl hN.2.2.2.2.1) (fun _ h9 => h9) rfl dX1_sum_94 ?_
    refine kz_iast (j := 3) hx hb hK hP hD hS 4 2 rfl rfl (show 3 < 4 by decide) (by decide) dX1_sum_97 (fun H locs hP hD hS => ?_)
    have hP : va_P (dC, dI) vwCl [(h, .inr (1, [.ref qt, .int tn, .ref qk, .ref qs, .ref qm, .int hs])), (qk, .inl (cK, 16, .inl fk)), (qs, .inr (0, [.ref qw, .int (nI (ks_end n + 8)), .int ((ks_sum f n).1), .int ((ks_sum f n).2.1), .int ((ks_sum f n).2.2.1), .int ((ks_sum f n).2.2.2)])), (qw, .inl (cW, 16, .inl wd3)), (qm, .inl (cM, 4, .inl (upd (upd (upd (upd fs 0 ((ks_sum f n).1)) 1 ((ks_sum f n).2.1)) 2 ((ks_sum f n).2.2.1)) 3 ((ks_sum f n).2.2.2))))] H := hP
    have hD : va_D A [(h, .inr (1, [.ref qt, .int tn, .ref qk, .ref qs, .ref qm, .int hs])), (qk, .inl (cK, 16, .inl fk)), (qs, .inr (0, [.ref qw, .int (nI (ks_end n + 8)), .int ((ks_sum f n).1), .int ((ks_sum f n).2.1), .int ((ks_sum f n).2.2.1), .int ((ks_sum f n).2.2.2)])), (qw, .inl (cW, 16, .inl wd3)), (qm, .inl (cM, 4, .inl (upd (upd (upd (upd fs 0 ((ks_sum f n).1)) 1 ((ks_sum f n).2.1)) 2 ((ks_sum f n).2.2.1)) 3 ((ks_sum f n).2.2.2))))] := hD
    refine lv_aload_n hx hb dX1_sum_98 rfl (lv_at hl 1 rfl) ?_
    refine lv_iconst (v := 1) hx hb dX1_sum_99 (by decide) ?_
    refine va_put (D := (dC, dI)) (ci := 1) (v := .int 1) (ty := .boolean) (C := RX1) (T := TX1) (N := 6) hx hb hts (by decide +kernel) tyX1 tyX1_ok nmX1 hown hK hP hD hS 0 rfl rfl 5 (by decide) (hts (.fieldLink RX1 31 "KeySums" "hasSum" "Z") (by decide +kernel)) (fun _ h9 => h9) rfl (by decide +kernel) rfl rfl (Nat.le_of_ble_eq_true rfl) dX1_sum_100 (fun H locs hP hD hS => ?_)
    have hP : va_P (dC, dI) vwCl [(h, .inr (1, [.ref qt, .int tn, .ref qk, .ref qs, .ref qm, .int 1])), (qk, .inl (cK, 16, .inl fk)), (qs, .inr (0, [.ref qw, .int (nI (ks_end n + 8)), .int ((ks_sum f n).1), .int ((ks_sum f n).2.1), .int ((ks_sum f n).2.2.1), .int ((ks_sum f n).2.2.2)])), (qw, .inl (cW, 16, .inl wd3)), (qm, .inl (cM, 4, .inl (upd (upd (upd (upd fs 0 ((ks_sum f n).1)) 1 ((ks_sum f n).2.1)) 2 ((ks_sum f n).2.2.1)) 3 ((ks_sum f n).2.2.2))))] H := hP
    have hD : va_D A [(h, .inr (1, [.ref qt, .int tn, .ref qk, .ref qs, .ref qm, .int 1])), (qk, .inl (cK, 16, .inl fk)), (qs, .inr (0, [.ref qw, .int (nI (ks_end n + 8)), .int ((ks_sum f n).1), .int ((ks_sum f n).2.1), .int ((ks_sum f n).2.2.1), .int ((ks_sum f n).2.2.2)])), (qw, .inl (cW, 16, .inl wd3)), (qm, .inl (cM, 4, .inl (upd (upd (upd (upd fs 0 ((ks_sum f n).1)) 1 ((ks_sum f n).2.1)) 2 ((ks_sum f n).2.2.1)) 3 ((ks_sum f n).2.2.2))))] := hD
    refine lv_aload_n hx hb dX1_sum_103 rfl (lv_at hl 1 rfl) ?_
    refine va_get (D := (dC, dI)) (ci := 1) (v := .ref qs) (C := RX1) (T := TX1) (N := 6) hx hb hts (by decide +kernel) hown hK hP 0 rfl rfl 3 (by decide) (hts (.fieldLink RX1 23 "KeySums" "summer" "LKeySums$Summer;") (by decide +kernel)) (fun _ h9 => h9) rfl dX1_sum_104 ?_
    have hPc := hP.sub (ws' := [(qs, .inr (0, [.ref qw, .int (nI (ks_end n + 8)), .int ((ks_sum f n).1), .int ((ks_sum f n).2.1), .int ((ks_sum f n).2.2.1), .int ((ks_sum f n).2.2.2)]))]) [2] rfl
    have hDc := hD.sub (ws' := [(qs, .inr (0, [.ref qw, .int (nI (ks_end n + 8)), .int ((ks_sum f n).1), .int ((ks_sum f n).2.1), .int ((ks_sum f n).2.2.1), .int ((ks_sum f n).2.2.2)]))]) [2] (by decide) rfl
    have hKc := hK.sub (tys' := []) [] rfl
    have hFc := va_free (wc := [(qs, .inr (0, [.ref qw, .int (nI (ks_end n + 8)), .int ((ks_sum f n).1), .int ((ks_sum f n).2.1), .int ((ks_sum f n).2.2.1), .int ((ks_sum f n).2.2.2)]))]) hD hS hA [2] rfl
    refine va_callv (va_runVN (As := []) (rest := []) ⟨hx, hb, hml, hown, hts⟩ (c_restart l dC dI H.size qs qw (nI (ks_end n + 8)) (ks_sum f n)) ⟨va_cnB 0 hts gX1_sum_X0_restart_n61 rfl rfl rfl hN.2.2.2.2.2.2.2.2 (hts (.initialized RX0) (by decide +kernel)) (by decide +kernel) ⟨Nat.le_of_ble_eq_true rfl, Nat.le_of_ble_eq_true rfl⟩, hts (.instanceMethod yX0_restart) (by decide +kernel), hts (.selects RX0 yX0_restart yX0_restart) (by decide +kernel)⟩ ⟨fun a U g mk q => by obtain ⟨q0, q1, qP, qK, qD⟩ := q; exact ⟨q0, q1, qP, va_K.moved (u := U) (U := U.calling g mk a) (Vm.Alike.refl U.vm) qK, qD⟩, va_recv hKc hPc (ci := 0) (q0 := 0) rfl rfl, fun U hU hW => ⟨rfl, by rw [hU], by rw [hU]; exact hPc, va_K.moved hW.alike hKc, hDc.weaken (fun _ _ _ _ => trivial)⟩⟩ rfl rfl hl.1 rfl (lv_room (Nat.le_of_ble_eq_true rfl)) dX1_sum_107 ⟨Nat.zero_le _, Nat.zero_le _⟩) hS (fun q _ h => hFc q h) hFc (fun u t H1 locs ht hvm hw hB hz1 hk1 hS => ?_)
    obtain ⟨hP1, hK1, hD1⟩ := hB
    rw [ht] at hP1
    have hK1 := va_K.moved hvm.symm hK1
    try dsimp only at hw
    obtain ⟨hP, hD⟩ := va_join (wr := [(h, .inr (1, [.ref qt, .int tn, .ref qk, .ref qs, .ref qm, .int 1])), (qk, .inl (cK, 16, .inl fk)), (qw, .inl (cW, 16, .inl wd3)), (qm, .inl (cM, 4, .inl (upd (upd (upd (upd fs 0 ((ks_sum f n).1)) 1 ((ks_sum f n).2.1)) 2 ((ks_sum f n).2.2.1)) 3 ((ks_sum f n).2.2.2))))]) (w1 := [(qs, .inr (0, [.ref qw, .int (nI 0), .int 1732584193, .int (-271733879), .int (-1732584194), .int 271733878]))]) hP hD [2] [0, 1, 3, 4] rfl rfl (by decide) (by decide) hk1 hFc hP1 hD1
    have hP := hP.sub (ws' := [(h, .inr (1, [.ref qt, .int tn, .ref qk, .ref qs, .ref qm, .int 1])), (qk, .inl (cK, 16, .inl fk)), (qs, .inr (0, [.ref qw, .int (nI 0), .int 1732584193, .int (-271733879), .int (-1732584194), .int 271733878])), (qw, .inl (cW, 16, .inl wd3)), (qm, .inl (cM, 4, .inl (upd (upd (upd (upd fs 0 ((ks_sum f n).1)) 1 ((ks_sum f n).2.1)) 2 ((ks_sum f n).2.2.1)) 3 ((ks_sum f n).2.2.2))))]) [0, 1, 4, 2, 3] rfl
    have hD := hD.sub (ws' := [(h, .inr (1, [.ref qt, .int tn, .ref qk, .ref qs, .ref qm, .int 1])), (qk, .inl (cK, 16, .inl fk)), (qs, .inr (0, [.ref qw, .int (nI 0), .int 1732584193, .int (-271733879), .int (-1732584194), .int 271733878])), (qw, .inl (cW, 16, .inl wd3)), (qm, .inl (cM, 4, .inl (upd (upd (upd (upd fs 0 ((ks_sum f n).1)) 1 ((ks_sum f n).2.1)) 2 ((ks_sum f n).2.2.1)) 3 ((ks_sum f n).2.2.2))))]) [0, 1, 4, 2, 3] (by decide) rfl
    generalize H1 = H at hP hS ⊢
    have hP : va_P (dC, dI) vwCl [(h, .inr (1, [.ref qt, .int tn, .ref qk, .ref qs, .ref qm, .int 1])), (qk, .inl (cK, 16, .inl fk)), (qs, .inr (0, [.ref qw, .int (nI 0), .int 1732584193, .int (-271733879), .int (-1732584194), .int 271733878])), (qw, .inl (cW, 16, .inl wd3)), (qm, .inl (cM, 4, .inl (upd (upd (upd (upd fs 0 ((ks_sum f n).1)) 1 ((ks_sum f n).2.1)) 2 ((ks_sum f n).2.2.1)) 3 ((ks_sum f n).2.2.2))))] H := hP
    have hD : va_D A [(h, .inr (1, [.ref qt, .int tn, .ref qk, .ref qs, .ref qm, .int 1])), (qk, .inl (cK, 16, .inl fk)), (qs, .inr (0, [.ref qw, .int (nI 0), .int 1732584193, .int (-271733879), .int (-1732584194), .int 271733878])), (qw, .inl (cW, 16, .inl wd3)), (qm, .inl (cM, 4, .inl (upd (upd (upd (upd fs 0 ((ks_sum f n).1)) 1 ((ks_sum f n).2.1)) 2 ((ks_sum f n).2.2.1)) 3 ((ks_sum f n).2.2.2))))] := hD
    refine lv_iload_n hx hb dX1_sum_110 rfl (lv_at hl 0 rfl) ?_
    have hP9 := hP.sub (ws' := [(h, .inr (1, [.ref qt, .int tn, .ref qk, .ref qs, .ref qm, .int 1])), (qk, .inl (cK, 16, .inl fk)), (qs, .inr (0, [.ref qw, .int (nI 0), .int 1732584193, .int (-271733879), .int (-1732584194), .int 271733878])), (qw, .inl (cW, 16, .inl wd3)), (qm, .inl (cM, 4, .inl (upd (upd (upd (upd fs 0 ((ks_sum f n).1)) 1 ((ks_sum f n).2.1)) 2 ((ks_sum f n).2.2.1)) 3 ((ks_sum f n).2.2.2))))]) [0, 1, 2, 3, 4] rfl
    have hD9 := hD.sub (ws' := [(h, .inr (1, [.ref qt, .int tn, .ref qk, .ref qs, .ref qm, .int 1])), (qk, .inl (cK, 16, .inl fk)), (qs, .inr (0, [.ref qw, .int (nI 0), .int 1732584193, .int (-271733879), .int (-1732584194), .int 271733878])), (qw, .inl (cW, 16, .inl wd3)), (qm, .inl (cM, 4, .inl (upd (upd (upd (upd fs 0 ((ks_sum f n).1)) 1 ((ks_sum f n).2.1)) 2 ((ks_sum f n).2.2.1)) 3 ((ks_sum f n).2.2.2))))]) [0, 1, 2, 3, 4] (by decide) rfl
    have hK9 := hK.sub (tys' := [(cK, .byte), (cW, .int), (cM, .int)]) [0, 1, 2] rfl
    exact W.iret (v := (nI n)) hx hb hr (fun t ht hW => ⟨⟨(nI n), wd3, rfl, rfl, by rw [ht]; exact hP9, va_K.moved hW.alike hK9, hD9⟩, hS.F ht⟩) hS.2.2 dX1_sum_111
  · skip
    exact absurd hz hc

set_option maxHeartbeats 4000000 in
set_option maxRecDepth 100000 in
/-- sum -/
theorem c_sum_k (l : Launch) (dC : Nat → ClassId) (dI : Nat → Nat → Nat) (sz : Nat) (tS tT h qt qk qs qw qm : Nat) (cK cW cM : ClassId) (tn hs : Int32) (n : Nat) (v : ks_Q) (fk wd fs f : Nat → Int32) (y : Int32) (h2 : n + 16 < 2 ^ 28) (hi : ks_inv f n wd v) (hz : ¬ y = 0) (hf : ∀ j, j < 16 → f (n + j) &&& 255 = fk j &&& 255) : Met l yX1_sum wsX1_sum ({ frames := 4, cells := 0, slots := 0, locals := 160 }) (va_Pc [.ref h, .int y] (fun U => U.heap.size = sz ∧ va_P (dC, dI) vwCl [(h, .inr (1, [.ref qt, .int tn, .ref qk, .ref qs, .ref qm, .int hs])), (qk, .inl (cK, 16, .inl fk)), (qs, .inr (0, [.ref qw, .int (nI n), .int v.1, .int v.2.1, .int v.2.2.1, .int v.2.2.2])), (qw, .inl (cW, 16, .inl wd)), (qm, .inl (cM, 4, .inl fs))] U.heap ∧ va_K (dC, dI) vwCl [(cK, .byte), (cW, .int), (cM, .int)] U ∧ va_D (fun _ => True) [(h, .inr (1, [.ref qt, .int tn, .ref qk, .ref qs, .ref qm, .int hs])), (qk, .inl (cK, 16, .inl fk)), (qs, .inr (0, [.ref qw, .int (nI n), .int v.1, .int v.2.1, .int v.2.2.1, .int v.2.2.2])), (qw, .inl (cW, 16, .inl wd)), (qm, .inl (cM, 4, .inl fs))] ∧ ks_tab tS tT (va_A [(h, .inr (1, [.ref qt, .int tn, .ref qk, .ref qs, .ref qm, .int hs])), (qk, .inl (cK, 16, .inl fk)), (qs, .inr (0, [.ref qw, .int (nI n), .int v.1, .int v.2.1, .int v.2.2.1, .int v.2.2.2])), (qw, .inl (cW, 16, .inl wd)), (qm, .inl (cM, 4, .inl fs))] sz) U U.heap ∧ ks_nw U)) (va_Qi (fun (r : Int32) (u : Nat → Int32) => r = nI n) (fun (u : Nat → Int32) t => kz_B dC dI [(cK, .byte), (cW, .int), (cM, .int)] (va_A [(h, .inr (1, [.ref qt, .int tn, .ref qk, .ref qs, .ref qm, .int hs])), (qk, .inl (cK, 16, .inl fk)), (qs, .inr (0, [.ref qw, .int (nI n), .int v.1, .int v.2.1, .int v.2.2.1, .int v.2.2.2])), (qw, .inl (cW, 16, .inl wd)), (qm, .inl (cM, 4, .inl fs))] sz) [(h, .inr (1, [.ref qt, .int tn, .ref qk, .ref qs, .ref qm, .int 1])), (qk, .inl (cK, 16, .inl fk)), (qs, .inr (0, [.ref qw, .int (nI 0), .int 1732584193, .int (-271733879), .int (-1732584194), .int 271733878])), (qw, .inl (cW, 16, .inl u)), (qm, .inl (cM, 4, .inl (upd (upd (upd (upd fs 0 (ks_sum f (n + 16)).1) 1 (ks_sum f (n + 16)).2.1) 2 (ks_sum f (n + 16)).2.2.1) 3 (ks_sum f (n + 16)).2.2.2)))] t) (va_A [(h, .inr (1, [.ref qt, .int tn, .ref qk, .ref qs, .ref qm, .int hs])), (qk, .inl (cK, 16, .inl fk)), (qs, .inr (0, [.ref qw, .int (nI n), .int v.1, .int v.2.1, .int v.2.2.1, .int v.2.2.2])), (qw, .inl (cW, 16, .inl wd)), (qm, .inl (cM, 4, .inl fs))] sz)) 0 0 (va_A [(h, .inr (1, [.ref qt, .int tn, .ref qk, .ref qs, .ref qm, .int hs])), (qk, .inl (cK, 16, .inl fk)), (qs, .inr (0, [.ref qw, .int (nI n), .int v.1, .int v.2.1, .int v.2.2.1, .int v.2.2.2])), (qw, .inl (cW, 16, .inl wd)), (qm, .inl (cM, 4, .inl fs))] sz) := by
  refine Met.ofW (cc := cX1_sum) (maxL := 4) (ret := (some .int)) (by decide) rfl ?_
  intro p e s m args below meth c s₁ B hml hv
  obtain ⟨rfl, hsz, hP, hK, hD0, hT, hN⟩ := hv
  have hx := B.exec
  have hb := B.bytes
  have hr := B.returns
  have hts := atoms_spec (ws := wsX1_sum) B.pre
  have hown : s.vm.findClass RX1 = some m.cls := findClass_of_methodNamed B.named
  have hlocks := B.notSynchronized
  subst hsz
  have hD := hD0.self (sz := s.heap.size)
  generalize hAe : va_A [(h, .inr (1, [.ref qt, .int tn, .ref qk, .ref qs, .ref qm, .int hs])), (qk, .inl (cK, 16, .inl fk)), (qs, .inr (0, [.ref qw, .int (nI n), .int v.1, .int v.2.1, .int v.2.2.1, .int v.2.2.2])), (qw, .inl (cW, 16, .inl wd)), (qm, .inl (cM, 4, .inl fs))] s.heap.size = A at hD hT ⊢
  have hA : ∀ q : Nat, s.heap.size ≤ q → A q := fun q h => by rw [← hAe]; exact Or.inr h
  have hS : va_S A s.heap s.heap [] := va_S.rf
  have hP : va_P (dC, dI) vwCl [(h, .inr (1, [.ref qt, .int tn, .ref qk, .ref qs, .ref qm, .int hs])), (qk, .inl (cK, 16, .inl fk)), (qs, .inr (0, [.ref qw, .int (nI n), .int v.1, .int v.2.1, .int v.2.2.1, .int v.2.2.2])), (qw, .inl (cW, 16, .inl wd)), (qm, .inl (cM, 4, .inl fs))] s.heap := hP
  have hl := lv_entry ([.ref h, .int y]) (n := 4) (Nat.le_of_ble_eq_true rfl)
  rw [lg_entry_eq]
  generalize (lg_sl ([.ref h, .int y]) ++ List.replicate (4 - (lg_sl ([.ref h, .int y])).length) Slot.unset).toArray = ls at hl ⊢
  have hl : lv_has ls 4 [(0, .ref h), (1, .int y)] := hl
  refine lv_aload_n hx hb dX1_sum_0 rfl (lv_at hl 0 rfl) ?_
  refine va_get (D := (dC, dI)) (ci := 1) (v := .ref qs) (C := RX1) (T := TX1) (N := 6) hx hb hts (by decide +kernel) hown hK hP 0 rfl rfl 3 (by decide) (hts (.fieldLink RX1 23 "KeySums" "summer" "LKeySums$Summer;") (by decide +kernel)) (fun _ h9 => h9) rfl dX1_sum_1 ?_
  refine va_getN (D := (dC, dI)) (ci := 0) (v := .int (nI n)) (C := RX0) (T := TX0) (N := 6) hx hb hts (by decide +kernel) hown hK hP 2 rfl rfl 1 (by decide) (va_Nw.use rfl hN.1) (fun _ h9 => h9) rfl dX1_sum_4 ?_
  refine lv_istore_n (lv' := [(2, .int (nI n)), (0, .ref h), (1, .int y)]) hx hb dX1_sum_7 rfl hl (by decide) rfl (fun ls hl => ?_)
  refine lv_iload_n hx hb dX1_sum_8 rfl (lv_at hl 2 rfl) ?_
  refine lv_if_eq (tgt := 39) hx hb dX1_sum_9 (by decide) (fun hc => ?_) (fun hc => ?_)
  · skip
    exact absurd hc hz
  · skip
    refine lv_iconst (v := 0) hx hb dX1_sum_12 (by decide) ?_
    refine kz_top (y := nI 0) nI_0.symm ?_
    refine lv_istore_n (lv' := [(3, .int (nI 0)), (2, .int (nI n)), (0, .ref h), (1, .int y)]) hx hb dX1_sum_13 rfl hl (by decide) rfl (fun ls hl => ?_)
    refine kz_loop (σ := (Nat → Int32) × ks_Q) (fun i x1 ls H locs => ks_inv f (n + i) x1.1 x1.2 ∧ lv_has ls 4 [(3, .int (nI i)), (2, .int (nI n)), (0, .ref h)] ∧ va_P (dC, dI) vwCl [(h, .inr (1, [.ref qt, .int tn, .ref qk, .ref qs, .ref qm, .int hs])), (qk, .inl (cK, 16, .inl fk)), (qs, .inr (0, [.ref qw, .int (nI (n + i)), .int x1.2.1, .int x1.2.2.1, .int x1.2.2.2.1, .int x1.2.2.2.2])), (qw, .inl (cW, 16, .inl x1.1)), (qm, .inl (cM, 4, .inl fs))] H ∧ va_D A [(h, .inr (1, [.ref qt, .int tn, .ref qk, .ref qs, .ref qm, .int hs])), (qk, .inl (cK, 16, .inl fk)), (qs, .inr (0, [.ref qw, .int (nI (n + i)), .int x1.2.1, .int x1.2.2.1, .int x1.2.2.2.1, .int x1.2.2.2.2])), (qw, .inl (cW, 16, .inl x1.1)), (qm, .inl (cM, 4, .inl fs))] ∧ va_S A s.heap H locs) 16 ?_ ?_ 0 (wd, v) ls _ _ (Nat.zero_le _) ⟨hi, lv_sub hl [0, 1, 2] rfl, hP, hD, hS⟩
    · skip
      intro i x1 ls H locs hlt hI ih
      obtain ⟨hv, hl, hP, hD, hS⟩ := hI
      refine lv_iload_n hx hb dX1_sum_14 rfl (lv_at hl 0 rfl) ?_
      refine lv_bipush (v := 16) hx hb dX1_sum_15 (by decide) ?_
      refine lv_icmp_ge (tgt := 39) hx hb dX1_sum_17 (by decide) (fun hc => ?_) (fun hc => ?_)
      · skip
        exact absurd hc (nI_ge (a := i) (b := 16) hlt (by decide))
      · skip
        refine lv_aload_n hx hb dX1_sum_20 rfl (lv_at hl 2 rfl) ?_
        refine va_get (D := (dC, dI)) (ci := 1) (v := .ref qs) (C := RX1) (T := TX1) (N := 6) hx hb hts (by decide +kernel) hown hK hP 0 rfl rfl 3 (by decide) (hts (.fieldLink RX1 23 "KeySums" "summer" "LKeySums$Summer;") (by decide +kernel)) (fun _ h9 => h9) rfl dX1_sum_21 ?_
        refine lv_aload_n hx hb dX1_sum_24 rfl (lv_at hl 2 rfl) ?_
        refine va_get (D := (dC, dI)) (ci := 1) (v := .ref qk) (C := RX1) (T := TX1) (N := 6) hx hb hts (by decide +kernel) hown hK hP 0 rfl rfl 2 (by decide) (hts (.fieldLink RX1 17 "KeySums" "keyBytes" "[B") (by decide +kernel)) (fun _ h9 => h9) rfl dX1_sum_25 ?_
        refine lv_iload_n hx hb dX1_sum_28 rfl (lv_at hl 0 rfl) ?_
        refine kz_bald (j := i) hx hb hK hP 1 0 rfl rfl (hlt) (by decide) dX1_sum_29 ?_
        have hPc := hP.sub (ws' := [(qs, .inr (0, [.ref qw, .int (nI (n + i)), .int x1.2.1, .int x1.2.2.1, .int x1.2.2.2.1, .int x1.2.2.2.2])), (qw, .inl (cW, 16, .inl x1.1))]) [2, 3] rfl
        have hDc := hD.sub (ws' := [(qs, .inr (0, [.ref qw, .int (nI (n + i)), .int x1.2.1, .int x1.2.2.1, .int x1.2.2.2.1, .int x1.2.2.2.2])), (qw, .inl (cW, 16, .inl x1.1))]) [2, 3] (by decide) rfl
        have hKc := hK.sub (tys' := [(cW, .int)]) [1] rfl
        have hFc := va_free (wc := [(qs, .inr (0, [.ref qw, .int (nI (n + i)), .int x1.2.1, .int x1.2.2.1, .int x1.2.2.2.1, .int x1.2.2.2.2])), (qw, .inl (cW, 16, .inl x1.1))]) hD hS hA [2, 3] rfl
        refine va_callv (va_runVN (As := [.int (fk i)]) (rest := []) ⟨hx, hb, hml, hown, hts⟩ (c_take l dC dI H.size tS tT qs qw cW (n + i) x1.2 x1.1 f (fk i) (by omega) hv (hf i hlt)) ⟨va_cnB 1 hts gX1_sum_X0_take_n39 rfl rfl rfl hN.2.2.2.2.2.2.1 (hts (.initialized RX0) (by decide +kernel)) (by decide +kernel) ⟨Nat.le_of_ble_eq_true rfl, Nat.le_of_ble_eq_true rfl⟩, hts (.instanceMethod yX0_take) (by decide +kernel), hts (.selects RX0 yX0_take yX0_take) (by decide +kernel)⟩ ⟨fun a U g mk q => by obtain ⟨q0, q1, qP, qK, qD, qx0⟩ := q; exact ⟨q0, q1, qP, va_K.moved (u := U) (U := U.calling g mk a) (Vm.Alike.refl U.vm) qK, qD, ks_tab.moved (u := U) (U := U.calling g mk a) (Vm.Alike.refl U.vm) qx0⟩, va_recv hKc hPc (ci := 0) (q0 := 0) rfl rfl, fun U hU hW => ⟨rfl, by rw [hU], by rw [hU]; exact hPc, va_K.moved hW.alike hKc, hDc.weaken (fun _ _ _ _ => trivial), hT.call hS hFc hU hW.alike⟩⟩ rfl rfl hl.1 rfl (lv_room (Nat.le_of_ble_eq_true rfl)) dX1_sum_30 ⟨Nat.zero_le _, Nat.zero_le _⟩) hS (fun q _ h => hFc q h) hFc (fun u t H1 locs ht hvm hw hB hz1 hk1 hS => ?_)
        obtain ⟨wd2, v2⟩ := u
        obtain ⟨hP1, hK1, hD1⟩ := hB
        rw [ht] at hP1
        have hK1 := va_K.moved hvm.symm hK1
        try dsimp only at hw
        obtain ⟨hP, hD⟩ := va_join (wr := [(h, .inr (1, [.ref qt, .int tn, .ref qk, .ref qs, .ref qm, .int hs])), (qk, .inl (cK, 16, .inl fk)), (qm, .inl (cM, 4, .inl fs))]) (w1 := [(qs, .inr (0, [.ref qw, .int (nI (n + i + 1)), .int v2.1, .int v2.2.1, .int v2.2.2.1, .int v2.2.2.2])), (qw, .inl (cW, 16, .inl wd2))]) hP hD [2, 3] [0, 1, 4] rfl rfl (by decide) (by decide) hk1 hFc hP1 hD1
        have hP := hP.sub (ws' := [(h, .inr (1, [.ref qt, .int tn, .ref qk, .ref qs, .ref qm, .int hs])), (qk, .inl (cK, 16, .inl fk)), (qs, .inr (0, [.ref qw, .int (nI (n + i + 1)), .int v2.1, .int v2.2.1, .int v2.2.2.1, .int v2.2.2.2])), (qw, .inl (cW, 16, .inl wd2)), (qm, .inl (cM, 4, .inl fs))]) [0, 1, 3, 4, 2] rfl
        have hD := hD.sub (ws' := [(h, .inr (1, [.ref qt, .int tn, .ref qk, .ref qs, .ref qm, .int hs])), (qk, .inl (cK, 16, .inl fk)), (qs, .inr (0, [.ref qw, .int (nI (n + i + 1)), .int v2.1, .int v2.2.1, .int v2.2.2.1, .int v2.2.2.2])), (qw, .inl (cW, 16, .inl wd2)), (qm, .inl (cM, 4, .inl fs))]) [0, 1, 3, 4, 2] (by decide) rfl
        generalize H1 = H at hP hS ⊢
        have hP : va_P (dC, dI) vwCl [(h, .inr (1, [.ref qt, .int tn, .ref qk, .ref qs, .ref qm, .int hs])), (qk, .inl (cK, 16, .inl fk)), (qs, .inr (0, [.ref qw, .int (nI (n + i + 1)), .int v2.1, .int v2.2.1, .int v2.2.2.1, .int v2.2.2.2])), (qw, .inl (cW, 16, .inl wd2)), (qm, .inl (cM, 4, .inl fs))] H := hP
        have hD : va_D A [(h, .inr (1, [.ref qt, .int tn, .ref qk, .ref qs, .ref qm, .int hs])), (qk, .inl (cK, 16, .inl fk)), (qs, .inr (0, [.ref qw, .int (nI (n + i + 1)), .int v2.1, .int v2.2.1, .int v2.2.2.1, .int v2.2.2.2])), (qw, .inl (cW, 16, .inl wd2)), (qm, .inl (cM, 4, .inl fs))] := hD
        refine lv_iinc (v := nI (i + 1)) (lv' := [(3, .int (nI (i + 1))), (2, .int (nI n)), (0, .ref h)]) hx hb dX1_sum_33 hl (k := 0) rfl (nI_1 i) (by decide) rfl (fun ls hl => ?_)
        refine lv_goto (tgt := 14) hx hb dX1_sum_36 (by decide) ?_
        exact ih (wd2, v2) ls H locs ⟨hw, lv_sub hl [0, 1, 2] rfl, hP, hD, hS⟩
    · skip
      intro x1 ls H locs hI
      obtain ⟨hv, hl, hP, hD, hS⟩ := hI
      refine lv_iload_n hx hb dX1_sum_14 rfl (lv_at hl 0 rfl) ?_
      refine lv_bipush (v := 16) hx hb dX1_sum_15 (by decide) ?_
      refine lv_icmp_ge (tgt := 39) hx hb dX1_sum_17 (by decide) (fun hc => ?_) (fun hc => ?_)
      · skip
        refine lv_aload_n hx hb dX1_sum_39 rfl (lv_at hl 2 rfl) ?_
        refine va_get (D := (dC, dI)) (ci := 1) (v := .ref qs) (C := RX1) (T := TX1) (N := 6) hx hb hts (by decide +kernel) hown hK hP 0 rfl rfl 3 (by decide) (hts (.fieldLink RX1 23 "KeySums" "summer" "LKeySums$Summer;") (by decide +kernel)) (fun _ h9 => h9) rfl dX1_sum_40 ?_
        have hPc := hP.sub (ws' := [(qs, .inr (0, [.ref qw, .int (nI (n + 16)), .int x1.2.1, .int x1.2.2.1, .int x1.2.2.2.1, .int x1.2.2.2.2])), (qw, .inl (cW, 16, .inl x1.1))]) [2, 3] rfl
        have hDc := hD.sub (ws' := [(qs, .inr (0, [.ref qw, .int (nI (n + 16)), .int x1.2.1, .int x1.2.2.1, .int x1.2.2.2.1, .int x1.2.2.2.2])), (qw, .inl (cW, 16, .inl x1.1))]) [2, 3] (by decide) rfl
        have hKc := hK.sub (tys' := [(cW, .int)]) [1] rfl
        have hFc := va_free (wc := [(qs, .inr (0, [.ref qw, .int (nI (n + 16)), .int x1.2.1, .int x1.2.2.1, .int x1.2.2.2.1, .int x1.2.2.2.2])), (qw, .inl (cW, 16, .inl x1.1))]) hD hS hA [2, 3] rfl
        refine va_callv (va_runVN (As := []) (rest := []) ⟨hx, hb, hml, hown, hts⟩ (c_close l dC dI H.size tS tT qs qw cW (n + 16) x1.2 x1.1 f (by omega) hv) ⟨va_cnB 0 hts gX1_sum_X0_close_n46 rfl rfl rfl hN.2.2.2.2.2.2.2.1 (hts (.initialized RX0) (by decide +kernel)) (by decide +kernel) ⟨Nat.le_of_ble_eq_true rfl, Nat.le_of_ble_eq_true rfl⟩, hts (.instanceMethod yX0_close) (by decide +kernel), hts (.selects RX0 yX0_close yX0_close) (by decide +kernel)⟩ ⟨fun a U g mk q => by obtain ⟨q0, q1, qP, qK, qD, qx0⟩ := q; exact ⟨q0, q1, qP, va_K.moved (u := U) (U := U.calling g mk a) (Vm.Alike.refl U.vm) qK, qD, ks_tab.moved (u := U) (U := U.calling g mk a) (Vm.Alike.refl U.vm) qx0⟩, va_recv hKc hPc (ci := 0) (q0 := 0) rfl rfl, fun U hU hW => ⟨rfl, by rw [hU], by rw [hU]; exact hPc, va_K.moved hW.alike hKc, hDc.weaken (fun _ _ _ _ => trivial), hT.call hS hFc hU hW.alike⟩⟩ rfl rfl hl.1 rfl (lv_room (Nat.le_of_ble_eq_true rfl)) dX1_sum_43 ⟨Nat.zero_le _, Nat.zero_le _⟩) hS (fun q _ h => hFc q h) hFc (fun u t H1 locs ht hvm hw hB hz1 hk1 hS => ?_)
        obtain ⟨wd3, v2⟩ := u
        obtain ⟨hP1, hK1, hD1⟩ := hB
        rw [ht] at hP1
        have hK1 := va_K.moved hvm.symm hK1
        try dsimp only at hw
        obtain ⟨hP, hD⟩ := va_join (wr := [(h, .inr (1, [.ref qt, .int tn, .ref qk, .ref qs, .ref qm, .int hs])), (qk, .inl (cK, 16, .inl fk)), (qm, .inl (cM, 4, .inl fs))]) (w1 := [(qs, .inr (0, [.ref qw, .int (nI (ks_end (n + 16) + 8)), .int v2.1, .int v2.2.1, .int v2.2.2.1, .int v2.2.2.2])), (qw, .inl (cW, 16, .inl wd3))]) hP hD [2, 3] [0, 1, 4] rfl rfl (by decide) (by decide) hk1 hFc hP1 hD1
        have hP := hP.sub (ws' := [(h, .inr (1, [.ref qt, .int tn, .ref qk, .ref qs, .ref qm, .int hs])), (qk, .inl (cK, 16, .inl fk)), (qs, .inr (0, [.ref qw, .int (nI (ks_end (n + 16) + 8)), .int v2.1, .int v2.2.1, .int v2.2.2.1, .int v2.2.2.2])), (qw, .inl (cW, 16, .inl wd3)), (qm, .inl (cM, 4, .inl fs))]) [0, 1, 3, 4, 2] rfl
        have hD := hD.sub (ws' := [(h, .inr (1, [.ref qt, .int tn, .ref qk, .ref qs, .ref qm, .int hs])), (qk, .inl (cK, 16, .inl fk)), (qs, .inr (0, [.ref qw, .int (nI (ks_end (n + 16) + 8)), .int v2.1, .int v2.2.1, .int v2.2.2.1, .int v2.2.2.2])), (qw, .inl (cW, 16, .inl wd3)), (qm, .inl (cM, 4, .inl fs))]) [0, 1, 3, 4, 2] (by decide) rfl
        generalize H1 = H at hP hS ⊢
        have hP : va_P (dC, dI) vwCl [(h, .inr (1, [.ref qt, .int tn, .ref qk, .ref qs, .ref qm, .int hs])), (qk, .inl (cK, 16, .inl fk)), (qs, .inr (0, [.ref qw, .int (nI (ks_end (n + 16) + 8)), .int v2.1, .int v2.2.1, .int v2.2.2.1, .int v2.2.2.2])), (qw, .inl (cW, 16, .inl wd3)), (qm, .inl (cM, 4, .inl fs))] H := hP
        have hD : va_D A [(h, .inr (1, [.ref qt, .int tn, .ref qk, .ref qs, .ref qm, .int hs])), (qk, .inl (cK, 16, .inl fk)), (qs, .inr (0, [.ref qw, .int (nI (ks_end (n + 16) + 8)), .int v2.1, .int v2.2.1, .int v2.2.2.1, .int v2.2.2.2])), (qw, .inl (cW, 16, .inl wd3)), (qm, .inl (cM, 4, .inl fs))] := hD
        subst hw
        have hP : va_P (dC, dI) vwCl [(h, .inr (1, [.ref qt, .int tn, .ref qk, .ref qs, .ref qm, .int hs])), (qk, .inl (cK, 16, .inl fk)), (qs, .inr (0, [.ref qw, .int (nI (ks_end (n + 16) + 8)), .int ((ks_sum f (n + 16)).1), .int ((ks_sum f (n + 16)).2.1), .int ((ks_sum f (n + 16)).2.2.1), .int ((ks_sum f (n + 16)).2.2.2)])), (qw, .inl (cW, 16, .inl wd3)), (qm, .inl (cM, 4, .inl fs))] H := hP
        have hD : va_D A [(h, .inr (1, [.ref qt, .int tn, .ref qk, .ref qs, .ref qm, .int hs])), (qk, .inl (cK, 16, .inl fk)), (qs, .inr (0, [.ref qw, .int (nI (ks_end (n + 16) + 8)), .int ((ks_sum f (n + 16)).1), .int ((ks_sum f (n + 16)).2.1), .int ((ks_sum f (n + 16)).2.2.1), .int ((ks_sum f (n + 16)).2.2.2)])), (qw, .inl (cW, 16, .inl wd3)), (qm, .inl (cM, 4, .inl fs))] := hD
        refine lv_aload_n hx hb dX1_sum_46 rfl (lv_at hl 2 rfl) ?_
        refine va_get (D := (dC, dI)) (ci := 1) (v := .ref qm) (C := RX1) (T := TX1) (N := 6) hx hb hts (by decide +kernel) hown hK hP 0 rfl rfl 4 (by decide) (hts (.fieldLink RX1 27 "KeySums" "keptSum" "[I") (by decide +kernel)) (fun _ h9 => h9) rfl dX1_sum_47 ?_
        refine lv_iconst (v := 0) hx hb dX1_sum_50 (by decide) ?_
        refine kz_top (y := nI 0) (by decide) ?_
        refine lv_aload_n hx hb dX1_sum_51 rfl (lv_at hl 2 rfl) ?_
        refine va_get (D := (dC, dI)) (ci := 1) (v := .ref qs) (C := RX1) (T := TX1) (N := 6) hx hb hts (by decide +kernel) hown hK hP 0 rfl rfl 3 (by decide) (hts (.fieldLink RX1 23 "KeySums" "summer" "LKeySums$Summer;") (by decide +kernel)) (fun _ h9 => h9) rfl dX1_sum_52 ?_
        refine va_getN (D := (dC, dI)) (ci := 0) (v := .int ((ks_sum f (n + 16)).1)) (C := RX0) (T := TX0) (N := 6) hx hb hts (by decide +kernel) hown hK hP 2 rfl rfl 2 (by decide) (va_Nw.use rfl hN.2.1) (fun _ h9 => h9) rfl dX1_sum_55 ?_
        refine kz_iast (j := 0) hx hb hK hP hD hS 4 2 rfl rfl (show 0 < 4 by decide) (by decide) dX1_sum_58 (fun H locs hP hD hS => ?_)
        have hP : va_P (dC, dI) vwCl [(h, .inr (1, [.ref qt, .int tn, .ref qk, .ref qs, .ref qm, .int hs])), (qk, .inl (cK, 16, .inl fk)), (qs, .inr (0, [.ref qw, .int (nI (ks_end (n + 16) + 8)), .int ((ks_sum f (n + 16)).1), .int ((ks_sum f (n + 16)).2.1), .int ((ks_sum f (n + 16)).2.2.1), .int ((ks_sum f (n + 16)).2.2.2)])), (qw, .inl (cW, 16, .inl wd3)), (qm, .inl (cM, 4, .inl (upd fs 0 ((ks_sum f (n + 16)).1))))] H := hP
        have hD : va_D A [(h, .inr (1, [.ref qt, .int tn, .ref qk, .ref qs, .ref qm, .int hs])), (qk, .inl (cK, 16, .inl fk)), (qs, .inr (0, [.ref qw, .int (nI (ks_end (n + 16) + 8)), .int ((ks_sum f (n + 16)).1), .int ((ks_sum f (n + 16)).2.1), .int ((ks_sum f (n + 16)).2.2.1), .int ((ks_sum f (n + 16)).2.2.2)])), (qw, .inl (cW, 16, .inl wd3)), (qm, .inl (cM, 4, .inl (upd fs 0 ((ks_sum f (n + 16)).1))))] := hD
        refine lv_aload_n hx hb dX1_sum_59 rfl (lv_at hl 2 rfl) ?_
        refine va_get (D := (dC, dI)) (ci := 1) (v := .ref qm) (C := RX1) (T := TX1) (N := 6) hx hb hts (by decide +kernel) hown hK hP 0 rfl rfl 4 (by decide) (hts (.fieldLink RX1 27 "KeySums" "keptSum" "[I") (by decide +kernel)) (fun _ h9 => h9) rfl dX1_sum_60 ?_
        refine lv_iconst (v := 1) hx hb dX1_sum_63 (by decide) ?_
        refine kz_top (y := nI 1) (by decide) ?_
        refine lv_aload_n hx hb dX1_sum_64 rfl (lv_at hl 2 rfl) ?_
        refine va_get (D := (dC, dI)) (ci := 1) (v := .ref qs) (C := RX1) (T := TX1) (N := 6) hx hb hts (by decide +kernel) hown hK hP 0 rfl rfl 3 (by decide) (hts (.fieldLink RX1 23 "KeySums" "summer" "LKeySums$Summer;") (by decide +kernel)) (fun _ h9 => h9) rfl dX1_sum_65 ?_
        refine va_getN (D := (dC, dI)) (ci := 0) (v := .int ((ks_sum f (n + 16)).2.1)) (C := RX0) (T := TX0) (N := 6) hx hb hts (by decide +kernel) hown hK hP 2 rfl rfl 3 (by decide) (va_Nw.use rfl hN.2.2.1) (fun _ h9 => h9) rfl dX1_sum_68 ?_
        refine kz_iast (j := 1) hx hb hK hP hD hS 4 2 rfl rfl (show 1 < 4 by decide) (by decide) dX1_sum_71 (fun H locs hP hD hS => ?_)
        have hP : va_P (dC, dI) vwCl [(h, .inr (1, [.ref qt, .int tn, .ref qk, .ref qs, .ref qm, .int hs])), (qk, .inl (cK, 16, .inl fk)), (qs, .inr (0, [.ref qw, .int (nI (ks_end (n + 16) + 8)), .int ((ks_sum f (n + 16)).1), .int ((ks_sum f (n + 16)).2.1), .int ((ks_sum f (n + 16)).2.2.1), .int ((ks_sum f (n + 16)).2.2.2)])), (qw, .inl (cW, 16, .inl wd3)), (qm, .inl (cM, 4, .inl (upd (upd fs 0 ((ks_sum f (n + 16)).1)) 1 ((ks_sum f (n + 16)).2.1))))] H := hP
        have hD : va_D A [(h, .inr (1, [.ref qt, .int tn, .ref qk, .ref qs, .ref qm, .int hs])), (qk, .inl (cK, 16, .inl fk)), (qs, .inr (0, [.ref qw, .int (nI (ks_end (n + 16) + 8)), .int ((ks_sum f (n + 16)).1), .int ((ks_sum f (n + 16)).2.1), .int ((ks_sum f (n + 16)).2.2.1), .int ((ks_sum f (n + 16)).2.2.2)])), (qw, .inl (cW, 16, .inl wd3)), (qm, .inl (cM, 4, .inl (upd (upd fs 0 ((ks_sum f (n + 16)).1)) 1 ((ks_sum f (n + 16)).2.1))))] := hD
        refine lv_aload_n hx hb dX1_sum_72 rfl (lv_at hl 2 rfl) ?_
        refine va_get (D := (dC, dI)) (ci := 1) (v := .ref qm) (C := RX1) (T := TX1) (N := 6) hx hb hts (by decide +kernel) hown hK hP 0 rfl rfl 4 (by decide) (hts (.fieldLink RX1 27 "KeySums" "keptSum" "[I") (by decide +kernel)) (fun _ h9 => h9) rfl dX1_sum_73 ?_
        refine lv_iconst (v := 2) hx hb dX1_sum_76 (by decide) ?_
        refine kz_top (y := nI 2) (by decide) ?_
        refine lv_aload_n hx hb dX1_sum_77 rfl (lv_at hl 2 rfl) ?_
        refine va_get (D := (dC, dI)) (ci := 1) (v := .ref qs) (C := RX1) (T := TX1) (N := 6) hx hb hts (by decide +kernel) hown hK hP 0 rfl rfl 3 (by decide) (hts (.fieldLink RX1 23 "KeySums" "summer" "LKeySums$Summer;") (by decide +kernel)) (fun _ h9 => h9) rfl dX1_sum_78 ?_
        refine va_getN (D := (dC, dI)) (ci := 0) (v := .int ((ks_sum f (n + 16)).2.2.1)) (C := RX0) (T := TX0) (N := 6) hx hb hts (by decide +kernel) hown hK hP 2 rfl rfl 4 (by decide) (va_Nw.use rfl hN.2.2.2.1) (fun _ h9 => h9) rfl dX1_sum_81 ?_
        refine kz_iast (j := 2) hx hb hK hP hD hS 4 2 rfl rfl (show 2 < 4 by decide) (by decide) dX1_sum_84 (fun H locs hP hD hS => ?_)
        have hP : va_P (dC, dI) vwCl [(h, .inr (1, [.ref qt, .int tn, .ref qk, .ref qs, .ref qm, .int hs])), (qk, .inl (cK, 16, .inl fk)), (qs, .inr (0, [.ref qw, .int (nI (ks_end (n + 16) + 8)), .int ((ks_sum f (n + 16)).1), .int ((ks_sum f (n + 16)).2.1), .int ((ks_sum f (n + 16)).2.2.1), .int ((ks_sum f (n + 16)).2.2.2)])), (qw, .inl (cW, 16, .inl wd3)), (qm, .inl (cM, 4, .inl (upd (upd (upd fs 0 ((ks_sum f (n + 16)).1)) 1 ((ks_sum f (n + 16)).2.1)) 2 ((ks_sum f (n + 16)).2.2.1))))] H := hP
        have hD : va_D A [(h, .inr (1, [.ref qt, .int tn, .ref qk, .ref qs, .ref qm, .int hs])), (qk, .inl (cK, 16, .inl fk)), (qs, .inr (0, [.ref qw, .int (nI (ks_end (n + 16) + 8)), .int ((ks_sum f (n + 16)).1), .int ((ks_sum f (n + 16)).2.1), .int ((ks_sum f (n + 16)).2.2.1), .int ((ks_sum f (n + 16)).2.2.2)])), (qw, .inl (cW, 16, .inl wd3)), (qm, .inl (cM, 4, .inl (upd (upd (upd fs 0 ((ks_sum f (n + 16)).1)) 1 ((ks_sum f (n + 16)).2.1)) 2 ((ks_sum f (n + 16)).2.2.1))))] := hD
        refine lv_aload_n hx hb dX1_sum_85 rfl (lv_at hl 2 rfl) ?_
        refine va_get (D := (dC, dI)) (ci := 1) (v := .ref qm) (C := RX1) (T := TX1) (N := 6) hx hb hts (by decide +kernel) hown hK hP 0 rfl rfl 4 (by decide) (hts (.fieldLink RX1 27 "KeySums" "keptSum" "[I") (by decide +kernel)) (fun _ h9 => h9) rfl dX1_sum_86 ?_
        refine lv_iconst (v := 3) hx hb dX1_sum_89 (by decide) ?_
        refine kz_top (y := nI 3) (by decide) ?_
        refine lv_aload_n hx hb dX1_sum_90 rfl (lv_at hl 2 rfl) ?_
        refine va_get (D := (dC, dI)) (ci := 1) (v := .ref qs) (C := RX1) (T := TX1) (N := 6) hx hb hts (by decide +kernel) hown hK hP 0 rfl rfl 3 (by decide) (hts (.fieldLink RX1 23 "KeySums" "summer" "LKeySums$Summer;") (by decide +kernel)) (fun _ h9 => h9) rfl dX1_sum_91 ?_
        refine va_getN (D := (dC, dI)) (ci := 0) (v := .int ((ks_sum f (n + 16)).2.2.2)) (C := RX0) (T := TX0) (N := 6) hx hb hts (by decide +kernel) hown hK hP 2 rfl rfl 5 (by decide) (va_Nw.use rfl hN.2.2.2.2.1) (fun _ h9 => h9) rfl dX1_sum_94 ?_
        refine kz_iast (j := 3) hx hb hK hP hD hS 4 2 rfl rfl (show 3 < 4 by decide) (by decide) dX1_sum_97 (fun H locs hP hD hS => ?_)
        have hP : va_P (dC, dI) vwCl [(h, .inr (1, [.ref qt, .int tn, .ref qk, .ref qs, .ref qm, .int hs])), (qk, .inl (cK, 16, .inl fk)), (qs, .inr (0, [.ref qw, .int (nI (ks_end (n + 16) + 8)), .int ((ks_sum f (n + 16)).1), .int ((ks_sum f (n + 16)).2.1), .int ((ks_sum f (n + 16)).2.2.1), .int ((ks_sum f (n + 16)).2.2.2)])), (qw, .inl (cW, 16, .inl wd3)), (qm, .inl (cM, 4, .inl (upd (upd (upd (upd fs 0 ((ks_sum f (n + 16)).1)) 1 ((ks_sum f (n + 16)).2.1)) 2 ((ks_sum f (n + 16)).2.2.1)) 3 ((ks_sum f (n + 16)).2.2.2))))] H := hP
        have hD : va_D A [(h, .inr (1, [.ref qt, .int tn, .ref qk, .ref qs, .ref qm, .int hs])), (qk, .inl (cK, 16, .inl fk)), (qs, .inr (0, [.ref qw, .int (nI (ks_end (n + 16) + 8)), .int ((ks_sum f (n + 16)).1), .int ((ks_sum f (n + 16)).2.1), .int ((ks_sum f (n + 16)).2.2.1), .int ((ks_sum f (n + 16)).2.2.2)])), (qw, .inl (cW, 16, .inl wd3)), (qm, .inl (cM, 4, .inl (upd (upd (upd (upd fs 0 ((ks_sum f (n + 16)).1)) 1 ((ks_sum f (n + 16)).2.1)) 2 ((ks_sum f (n + 16)).2.2.1)) 3 ((ks_sum f (n + 16)).2.2.2))))] := hD
        refine lv_aload_n hx hb dX1_sum_98 rfl (lv_at hl 2 rfl) ?_
        refine lv_iconst (v := 1) hx hb dX1_sum_99 (by decide) ?_
        refine va_put (D := (dC, dI)) (ci := 1) (v := .int 1) (ty := .boolean) (C := RX1) (T := TX1) (N := 6) hx hb hts (by decide +kernel) tyX1 tyX1_ok nmX1 hown hK hP hD hS 0 rfl rfl 5 (by decide) (hts (.fieldLink RX1 31 "KeySums" "hasSum" "Z") (by decide +kernel)) (fun _ h9 => h9) rfl (by decide +kernel) rfl rfl (Nat.le_of_ble_eq_true rfl) dX1_sum_100 (fun H locs hP hD hS => ?_)
        have hP : va_P (dC, dI) vwCl [(h, .inr (1, [.ref qt, .int tn, .ref qk, .ref qs, .ref qm, .int 1])), (qk, .inl (cK, 16, .inl fk)), (qs, .inr (0, [.ref qw, .int (nI (ks_end (n + 16) + 8)), .int ((ks_sum f (n + 16)).1), .int ((ks_sum f (n + 16)).2.1), .int ((ks_sum f (n + 16)).2.2.1), .int ((ks_sum f (n + 16)).2.2.2)])), (qw, .inl (cW, 16, .inl wd3)), (qm, .inl (cM, 4, .inl (upd (upd (upd (upd fs 0 ((ks_sum f (n + 16)).1)) 1 ((ks_sum f (n + 16)).2.1)) 2 ((ks_sum f (n + 16)).2.2.1)) 3 ((ks_sum f (n + 16)).2.2.2))))] H := hP
        have hD : va_D A [(h, .inr (1, [.ref qt, .int tn, .ref qk, .ref qs, .ref qm, .int 1])), (qk, .inl (cK, 16, .inl fk)), (qs, .inr (0, [.ref qw, .int (nI (ks_end (n + 16) + 8)), .int ((ks_sum f (n + 16)).1), .int ((ks_sum f (n + 16)).2.1), .int ((ks_sum f (n + 16)).2.2.1), .int ((ks_sum f (n + 16)).2.2.2)])), (qw, .inl (cW, 16, .inl wd3)), (qm, .inl (cM, 4, .inl (upd (upd (upd (upd fs 0 ((ks_sum f (n + 16)).1)) 1 ((ks_sum f (n + 16)).2.1)) 2 ((ks_sum f (n + 16)).2.2.1)) 3 ((ks_sum f (n + 16)).2.2.2))))] := hD
        refine lv_aload_n hx hb dX1_sum_103 rfl (lv_at hl 2 rfl) ?_
        refine va_get (D := (dC, dI)) (ci := 1) (v := .ref qs) (C := RX1) (T := TX1) (N := 6) hx hb hts (by decide +kernel) hown hK hP 0 rfl rfl 3 (by decide) (hts (.fieldLink RX1 23 "KeySums" "summer" "LKeySums$Summer;") (by decide +kernel)) (fun _ h9 => h9) rfl dX1_sum_104 ?_
        have hPc := hP.sub (ws' := [(qs, .inr (0, [.ref qw, .int (nI (ks_end (n + 16) + 8)), .int ((ks_sum f (n + 16)).1), .int ((ks_sum f (n + 16)).2.1), .int ((ks_sum f (n + 16)).2.2.1), .int ((ks_sum f (n + 16)).2.2.2)]))]) [2] rfl
        have hDc := hD.sub (ws' := [(qs, .inr (0, [.ref qw, .int (nI (ks_end (n + 16) + 8)), .int ((ks_sum f (n + 16)).1), .int ((ks_sum f (n + 16)).2.1), .int ((ks_sum f (n + 16)).2.2.1), .int ((ks_sum f (n + 16)).2.2.2)]))]) [2] (by decide) rfl
        have hKc := hK.sub (tys' := []) [] rfl
        have hFc := va_free (wc := [(qs, .inr (0, [.ref qw, .int (nI (ks_end (n + 16) + 8)), .int ((ks_sum f (n + 16)).1), .int ((ks_sum f (n + 16)).2.1), .int ((ks_sum f (n + 16)).2.2.1), .int ((ks_sum f (n + 16)).2.2.2)]))]) hD hS hA [2] rfl
        refine va_callv (va_runVN (As := []) (rest := []) ⟨hx, hb, hml, hown, hts⟩ (c_restart l dC dI H.size qs qw (nI (ks_end (n + 16) + 8)) (ks_sum f (n + 16))) ⟨va_cnB 0 hts gX1_sum_X0_restart_n61 rfl rfl rfl hN.2.2.2.2.2.2.2.2 (hts (.initialized RX0) (by decide +kernel)) (by decide +kernel) ⟨Nat.le_of_ble_eq_true rfl, Nat.le_of_ble_eq_true rfl⟩, hts (.instanceMethod yX0_restart) (by decide +kernel), hts (.selects RX0 yX0_restart yX0_restart) (by decide +kernel)⟩ ⟨fun a U g mk q => by obtain ⟨q0, q1, qP, qK, qD⟩ := q; exact ⟨q0, q1, qP, va_K.moved (u := U) (U := U.calling g mk a) (Vm.Alike.refl U.vm) qK, qD⟩, va_recv hKc hPc (ci := 0) (q0 := 0) rfl rfl, fun U hU hW => ⟨rfl, by rw [hU], by rw [hU]; exact hPc, va_K.moved hW.alike hKc, hDc.weaken (fun _ _ _ _ => trivial)⟩⟩ rfl rfl hl.1 rfl (lv_room (Nat.le_of_ble_eq_true rfl)) dX1_sum_107 ⟨Nat.zero_le _, Nat.zero_le _⟩) hS (fun q _ h => hFc q h) hFc (fun u t H1 locs ht hvm hw hB hz1 hk1 hS => ?_)
        obtain ⟨hP1, hK1, hD1⟩ := hB
        rw [ht] at hP1
        have hK1 := va_K.moved hvm.symm hK1
        try dsimp only at hw
        obtain ⟨hP, hD⟩ := va_join (wr := [(h, .inr (1, [.ref qt, .int tn, .ref qk, .ref qs, .ref qm, .int 1])), (qk, .inl (cK, 16, .inl fk)), (qw, .inl (cW, 16, .inl wd3)), (qm, .inl (cM, 4, .inl (upd (upd (upd (upd fs 0 ((ks_sum f (n + 16)).1)) 1 ((ks_sum f (n + 16)).2.1)) 2 ((ks_sum f (n + 16)).2.2.1)) 3 ((ks_sum f (n + 16)).2.2.2))))]) (w1 := [(qs, .inr (0, [.ref qw, .int (nI 0), .int 1732584193, .int (-271733879), .int (-1732584194), .int 271733878]))]) hP hD [2] [0, 1, 3, 4] rfl rfl (by decide) (by decide) hk1 hFc hP1 hD1
        have hP := hP.sub (ws' := [(h, .inr (1, [.ref qt, .int tn, .ref qk, .ref qs, .ref qm, .int 1])), (qk, .inl (cK, 16, .inl fk)), (qs, .inr (0, [.ref qw, .int (nI 0), .int 1732584193, .int (-271733879), .int (-1732584194), .int 271733878])), (qw, .inl (cW, 16, .inl wd3)), (qm, .inl (cM, 4, .inl (upd (upd (upd (upd fs 0 ((ks_sum f (n + 16)).1)) 1 ((ks_sum f (n + 16)).2.1)) 2 ((ks_sum f (n + 16)).2.2.1)) 3 ((ks_sum f (n + 16)).2.2.2))))]) [0, 1, 4, 2, 3] rfl
        have hD := hD.sub (ws' := [(h, .inr (1, [.ref qt, .int tn, .ref qk, .ref qs, .ref qm, .int 1])), (qk, .inl (cK, 16, .inl fk)), (qs, .inr (0, [.ref qw, .int (nI 0), .int 1732584193, .int (-271733879), .int (-1732584194), .int 271733878])), (qw, .inl (cW, 16, .inl wd3)), (qm, .inl (cM, 4, .inl (upd (upd (upd (upd fs 0 ((ks_sum f (n + 16)).1)) 1 ((ks_sum f (n + 16)).2.1)) 2 ((ks_sum f (n + 16)).2.2.1)) 3 ((ks_sum f (n + 16)).2.2.2))))]) [0, 1, 4, 2, 3] (by decide) rfl
        generalize H1 = H at hP hS ⊢
        have hP : va_P (dC, dI) vwCl [(h, .inr (1, [.ref qt, .int tn, .ref qk, .ref qs, .ref qm, .int 1])), (qk, .inl (cK, 16, .inl fk)), (qs, .inr (0, [.ref qw, .int (nI 0), .int 1732584193, .int (-271733879), .int (-1732584194), .int 271733878])), (qw, .inl (cW, 16, .inl wd3)), (qm, .inl (cM, 4, .inl (upd (upd (upd (upd fs 0 ((ks_sum f (n + 16)).1)) 1 ((ks_sum f (n + 16)).2.1)) 2 ((ks_sum f (n + 16)).2.2.1)) 3 ((ks_sum f (n + 16)).2.2.2))))] H := hP
        have hD : va_D A [(h, .inr (1, [.ref qt, .int tn, .ref qk, .ref qs, .ref qm, .int 1])), (qk, .inl (cK, 16, .inl fk)), (qs, .inr (0, [.ref qw, .int (nI 0), .int 1732584193, .int (-271733879), .int (-1732584194), .int 271733878])), (qw, .inl (cW, 16, .inl wd3)), (qm, .inl (cM, 4, .inl (upd (upd (upd (upd fs 0 ((ks_sum f (n + 16)).1)) 1 ((ks_sum f (n + 16)).2.1)) 2 ((ks_sum f (n + 16)).2.2.1)) 3 ((ks_sum f (n + 16)).2.2.2))))] := hD
        refine lv_iload_n hx hb dX1_sum_110 rfl (lv_at hl 1 rfl) ?_
        have hP9 := hP.sub (ws' := [(h, .inr (1, [.ref qt, .int tn, .ref qk, .ref qs, .ref qm, .int 1])), (qk, .inl (cK, 16, .inl fk)), (qs, .inr (0, [.ref qw, .int (nI 0), .int 1732584193, .int (-271733879), .int (-1732584194), .int 271733878])), (qw, .inl (cW, 16, .inl wd3)), (qm, .inl (cM, 4, .inl (upd (upd (upd (upd fs 0 ((ks_sum f (n + 16)).1)) 1 ((ks_sum f (n + 16)).2.1)) 2 ((ks_sum f (n + 16)).2.2.1)) 3 ((ks_sum f (n + 16)).2.2.2))))]) [0, 1, 2, 3, 4] rfl
        have hD9 := hD.sub (ws' := [(h, .inr (1, [.ref qt, .int tn, .ref qk, .ref qs, .ref qm, .int 1])), (qk, .inl (cK, 16, .inl fk)), (qs, .inr (0, [.ref qw, .int (nI 0), .int 1732584193, .int (-271733879), .int (-1732584194), .int 271733878])), (qw, .inl (cW, 16, .inl wd3)), (qm, .inl (cM, 4, .inl (upd (upd (upd (upd fs 0 ((ks_sum f (n + 16)).1)) 1 ((ks_sum f (n + 16)).2.1)) 2 ((ks_sum f (n + 16)).2.2.1)) 3 ((ks_sum f (n + 16)).2.2.2))))]) [0, 1, 2, 3, 4] (by decide) rfl
        have hK9 := hK.sub (tys' := [(cK, .byte), (cW, .int), (cM, .int)]) [0, 1, 2] rfl
        exact W.iret (v := (nI n)) hx hb hr (fun t ht hW => ⟨⟨(nI n), wd3, rfl, rfl, by rw [ht]; exact hP9, va_K.moved hW.alike hK9, hD9⟩, hS.F ht⟩) hS.2.2 dX1_sum_111
      · skip
        exact absurd (nI_le (a := 16) (b := 16) (Nat.le_refl _) (by decide)) hc
