set_option maxHeartbeats 4000000 in
set_option maxRecDepth 100000 in
/-- take: one byte more -/
theorem c_take (l : Launch) (dC : Nat → ClassId) (dI : Nat → Nat → Nat) (sz : Nat) (tS tT h w : Nat) (cI : ClassId) (n : Nat) (v : ks_Q) (wd f : Nat → Int32) (x : Int32) (hn : n + 1 < 2 ^ 31) (hi : ks_inv f n wd v) (hfx : f n &&& 255 = x &&& 255) : Met l yX0_take wsX0_take ({ frames := 2, cells := 0, slots := 0, locals := 60 }) (va_Pc [.ref h, .int x] (fun U => U.heap.size = sz ∧ va_P (dC, dI) vwCl [(h, .inr (0, [.ref w, .int (nI n), .int v.1, .int v.2.1, .int v.2.2.1, .int v.2.2.2])), (w, .inl (cI, 16, .inl wd))] U.heap ∧ va_K (dC, dI) vwCl [(cI, .int)] U ∧ va_D (fun _ => True) [(h, .inr (0, [.ref w, .int (nI n), .int v.1, .int v.2.1, .int v.2.2.1, .int v.2.2.2])), (w, .inl (cI, 16, .inl wd))] ∧ ks_tab tS tT (va_A [(h, .inr (0, [.ref w, .int (nI n), .int v.1, .int v.2.1, .int v.2.2.1, .int v.2.2.2])), (w, .inl (cI, 16, .inl wd))] sz) U U.heap)) (va_Qv (fun u : (Nat → Int32) × ks_Q => ks_inv f (n + 1) u.1 u.2) (fun (u : (Nat → Int32) × ks_Q) t => kz_B dC dI [(cI, .int)] (va_A [(h, .inr (0, [.ref w, .int (nI n), .int v.1, .int v.2.1, .int v.2.2.1, .int v.2.2.2])), (w, .inl (cI, 16, .inl wd))] sz) [(h, .inr (0, [.ref w, .int (nI (n + 1)), .int u.2.1, .int u.2.2.1, .int u.2.2.2.1, .int u.2.2.2.2])), (w, .inl (cI, 16, .inl u.1))] t) (va_A [(h, .inr (0, [.ref w, .int (nI n), .int v.1, .int v.2.1, .int v.2.2.1, .int v.2.2.2])), (w, .inl (cI, 16, .inl wd))] sz)) 0 0 (va_A [(h, .inr (0, [.ref w, .int (nI n), .int v.1, .int v.2.1, .int v.2.2.1, .int v.2.2.2])), (w, .inl (cI, 16, .inl wd))] sz) := by
  refine Met.ofW (cc := cX0_take) (maxL := 3) (ret := none) (by decide) rfl ?_
  intro p e s m args below meth c s₁ B hml hv
  obtain ⟨rfl, hsz, hP, hK, hD0, hT⟩ := hv
  have hx := B.exec
  have hb := B.bytes
  have hr := B.returns
  have hts := atoms_spec (ws := wsX0_take) B.pre
  have hown : s.vm.findClass RX0 = some m.cls := findClass_of_methodNamed B.named
  have hlocks := B.notSynchronized
  subst hsz
  have hD := hD0.self (sz := s.heap.size)
  generalize hAe : va_A [(h, .inr (0, [.ref w, .int (nI n), .int v.1, .int v.2.1, .int v.2.2.1, .int v.2.2.2])), (w, .inl (cI, 16, .inl wd))] s.heap.size = A at hD hT ⊢
  have hA : ∀ q : Nat, s.heap.size ≤ q → A q := fun q h => by rw [← hAe]; exact Or.inr h
  have hS : va_S A s.heap s.heap [] := va_S.rf
  have hP : va_P (dC, dI) vwCl [(h, .inr (0, [.ref w, .int (nI n), .int v.1, .int v.2.1, .int v.2.2.1, .int v.2.2.2])), (w, .inl (cI, 16, .inl wd))] s.heap := hP
  have hl := lv_entry ([.ref h, .int x]) (n := 3) (Nat.le_of_ble_eq_true rfl)
  rw [lg_entry_eq]
  generalize (lg_sl ([.ref h, .int x]) ++ List.replicate (3 - (lg_sl ([.ref h, .int x])).length) Slot.unset).toArray = ls at hl ⊢
  have hl : lv_has ls 3 [(0, .ref h), (1, .int x)] := hl
  refine lv_aload_n hx hb dX0_take_0 rfl (lv_at hl 0 rfl) ?_
  refine va_get (D := (dC, dI)) (ci := 0) (v := .int (nI n)) (C := RX0) (T := TX0) (N := 6) hx hb hts (by decide +kernel) hown hK hP 0 rfl rfl 1 (by decide) (hts (.fieldLink RX0 16 "KeySums$Summer" "count" "I") (by decide +kernel)) (fun _ h9 => h9) rfl dX0_take_1 ?_
  refine lv_bipush (v := 63) hx hb dX0_take_4 (by decide) ?_
  refine lv_iand hx hb dX0_take_6 ?_
  refine kz_top (y := nI (n % 64)) (pk_andN (by omega) 6 (by decide)) ?_
  refine lv_iconst (v := 2) hx hb dX0_take_7 (by decide) ?_
  refine lv_ishr hx hb dX0_take_8 ?_
  refine kz_top (y := nI (n % 64 / 4)) (pk_shrN (by omega) _ 2 (by decide)) ?_
  refine lv_istore_n (lv' := [(2, .int (nI (n % 64 / 4))), (0, .ref h), (1, .int x)]) hx hb dX0_take_9 rfl hl (by decide) rfl (fun ls hl => ?_)
  refine lv_aload_n hx hb dX0_take_10 rfl (lv_at hl 1 rfl) ?_
  refine va_get (D := (dC, dI)) (ci := 0) (v := .ref w) (C := RX0) (T := TX0) (N := 6) hx hb hts (by decide +kernel) hown hK hP 0 rfl rfl 0 (by decide) (hts (.fieldLink RX0 7 "KeySums$Summer" "words" "[I") (by decide +kernel)) (fun _ h9 => h9) rfl dX0_take_11 ?_
  refine lv_iload_n hx hb dX0_take_14 rfl (lv_at hl 0 rfl) ?_
  refine lv_aload_n hx hb dX0_take_15 rfl (lv_at hl 1 rfl) ?_
  refine va_get (D := (dC, dI)) (ci := 0) (v := .ref w) (C := RX0) (T := TX0) (N := 6) hx hb hts (by decide +kernel) hown hK hP 0 rfl rfl 0 (by decide) (hts (.fieldLink RX0 7 "KeySums$Summer" "words" "[I") (by decide +kernel)) (fun _ h9 => h9) rfl dX0_take_16 ?_
  refine lv_iload_n hx hb dX0_take_19 rfl (lv_at hl 0 rfl) ?_
  refine kz_iald (j := (n % 64 / 4)) hx hb hK hP 1 0 rfl rfl (show n % 64 / 4 < 16 by omega) (by decide) dX0_take_20 ?_
  refine lv_bipush (v := 8) hx hb dX0_take_21 (by decide) ?_
  refine lv_iushr (v := ks_us (wd (n % 64 / 4)) 8) hx hb dX0_take_23 rfl ?_
  refine lv_iload_n hx hb dX0_take_24 rfl (lv_at hl 2 rfl) ?_
  refine lv_bipush (v := 24) hx hb dX0_take_25 (by decide) ?_
  refine lv_ishl hx hb dX0_take_27 ?_
  refine lv_ior hx hb dX0_take_28 ?_
  refine kz_top (y := ks_push (wd (n % 64 / 4)) x) rfl ?_
  refine kz_iast (j := (n % 64 / 4)) hx hb hK hP hD hS 1 0 rfl rfl (show n % 64 / 4 < 16 by omega) (by decide) dX0_take_29 (fun H locs hP hD hS => ?_)
  have hP : va_P (dC, dI) vwCl [(h, .inr (0, [.ref w, .int (nI n), .int v.1, .int v.2.1, .int v.2.2.1, .int v.2.2.2])), (w, .inl (cI, 16, .inl (upd wd (n % 64 / 4) (ks_push (wd (n % 64 / 4)) x))))] H := hP
  have hD : va_D A [(h, .inr (0, [.ref w, .int (nI n), .int v.1, .int v.2.1, .int v.2.2.1, .int v.2.2.2])), (w, .inl (cI, 16, .inl (upd wd (n % 64 / 4) (ks_push (wd (n % 64 / 4)) x))))] := hD
  generalize hwd : upd wd (n % 64 / 4) (ks_push (wd (n % 64 / 4)) x) = wd1 at hP hD
  refine lv_aload_n hx hb dX0_take_30 rfl (lv_at hl 1 rfl) ?_
  refine lv_dup hx hb dX0_take_31 rfl ?_
  refine va_get (D := (dC, dI)) (ci := 0) (v := .int (nI n)) (C := RX0) (T := TX0) (N := 6) hx hb hts (by decide +kernel) hown hK hP 0 rfl rfl 1 (by decide) (hts (.fieldLink RX0 16 "KeySums$Summer" "count" "I") (by decide +kernel)) (fun _ h9 => h9) rfl dX0_take_32 ?_
  refine lv_iconst (v := 1) hx hb dX0_take_35 (by decide) ?_
  refine lv_iadd hx hb dX0_take_36 ?_
  refine kz_top (y := nI (n + 1)) (nI_1 n) ?_
  refine va_put (D := (dC, dI)) (ci := 0) (v := .int (nI (n + 1))) (ty := .int) (C := RX0) (T := TX0) (N := 6) hx hb hts (by decide +kernel) tyX0 tyX0_ok nmX0 hown hK hP hD hS 0 rfl rfl 1 (by decide) (hts (.fieldLink RX0 16 "KeySums$Summer" "count" "I") (by decide +kernel)) (fun _ h9 => h9) rfl (by decide +kernel) rfl rfl (Nat.le_of_ble_eq_true rfl) dX0_take_37 (fun H locs hP hD hS => ?_)
  have hP : va_P (dC, dI) vwCl [(h, .inr (0, [.ref w, .int (nI (n + 1)), .int v.1, .int v.2.1, .int v.2.2.1, .int v.2.2.2])), (w, .inl (cI, 16, .inl wd1))] H := hP
  have hD : va_D A [(h, .inr (0, [.ref w, .int (nI (n + 1)), .int v.1, .int v.2.1, .int v.2.2.1, .int v.2.2.2])), (w, .inl (cI, 16, .inl wd1))] := hD
  refine lv_aload_n hx hb dX0_take_40 rfl (lv_at hl 1 rfl) ?_
  refine va_get (D := (dC, dI)) (ci := 0) (v := .int (nI (n + 1))) (C := RX0) (T := TX0) (N := 6) hx hb hts (by decide +kernel) hown hK hP 0 rfl rfl 1 (by decide) (hts (.fieldLink RX0 16 "KeySums$Summer" "count" "I") (by decide +kernel)) (fun _ h9 => h9) rfl dX0_take_41 ?_
  refine lv_bipush (v := 63) hx hb dX0_take_44 (by decide) ?_
  refine lv_iand hx hb dX0_take_46 ?_
  refine kz_top (y := nI ((n + 1) % 64)) (pk_andN (by omega) 6 (by decide)) ?_
  refine lv_if_ne (tgt := 54) hx hb dX0_take_47 (by decide) (fun hc => ?_) (fun hc => ?_)
  · skip
    have hz : (n + 1) % 64 ≠ 0 := fun h => hc (by rw [h]; exact nI_0)
    have hi2 := ks_inv_put hi hfx hz
    rw [hwd] at hi2
    have hP9 := hP.sub (ws' := [(h, .inr (0, [.ref w, .int (nI (n + 1)), .int v.1, .int v.2.1, .int v.2.2.1, .int v.2.2.2])), (w, .inl (cI, 16, .inl wd1))]) [0, 1] rfl
    have hD9 := hD.sub (ws' := [(h, .inr (0, [.ref w, .int (nI (n + 1)), .int v.1, .int v.2.1, .int v.2.2.1, .int v.2.2.2])), (w, .inl (cI, 16, .inl wd1))]) [0, 1] (by decide) rfl
    have hK9 := hK.sub (tys' := [(cI, .int)]) [0] rfl
    exact W.vret hx hb hr (fun t ht hW => ⟨⟨(wd1, v), rfl, hi2, by rw [ht]; exact hP9, va_K.moved hW.alike hK9, hD9⟩, hS.F ht⟩) hS.2.2 dX0_take_54
  · skip
    have hz : (n + 1) % 64 = 0 := by
      rcases Nat.eq_zero_or_pos ((n + 1) % 64) with h | h
      · exact h
      · exact absurd hc (nI_ne0 h (by omega))
    have hi2 := ks_inv_full hi hfx hz
    rw [hwd] at hi2
    refine lv_aload_n hx hb dX0_take_50 rfl (lv_at hl 1 rfl) ?_
    have hPc := hP.sub (ws' := [(h, .inr (0, [.ref w, .int (nI (n + 1)), .int v.1, .int v.2.1, .int v.2.2.1, .int v.2.2.2])), (w, .inl (cI, 16, .inl wd1))]) [0, 1] rfl
    have hDc := hD.sub (ws' := [(h, .inr (0, [.ref w, .int (nI (n + 1)), .int v.1, .int v.2.1, .int v.2.2.1, .int v.2.2.2])), (w, .inl (cI, 16, .inl wd1))]) [0, 1] (by decide) rfl
    have hKc := hK.sub (tys' := [(cI, .int)]) [0] rfl
    have hFc := va_free (wc := [(h, .inr (0, [.ref w, .int (nI (n + 1)), .int v.1, .int v.2.1, .int v.2.2.1, .int v.2.2.2])), (w, .inl (cI, 16, .inl wd1))]) hD hS hA [0, 1] rfl
    refine va_callv (va_runV (As := []) (rest := []) ⟨hx, hb, hml, hown, hts⟩ (c_mixBlock l dC dI H.size tS tT h w cI (nI (n + 1)) v wd1) (cwV 0 hts gX0_take_X0_mixBlock rfl rfl rfl (by decide +kernel) ⟨Nat.le_of_ble_eq_true rfl, Nat.le_of_ble_eq_true rfl⟩) ⟨fun a U g mk q => by obtain ⟨q0, q1, qP, qK, qD, qx0⟩ := q; exact ⟨q0, q1, qP, va_K.moved (u := U) (U := U.calling g mk a) (Vm.Alike.refl U.vm) qK, qD, ks_tab.moved (u := U) (U := U.calling g mk a) (Vm.Alike.refl U.vm) qx0⟩, va_recv hKc hPc (ci := 0) (q0 := 0) rfl rfl, fun U hU hW => ⟨rfl, by rw [hU], by rw [hU]; exact hPc, va_K.moved hW.alike hKc, hDc.weaken (fun _ _ _ _ => trivial), hT.call hS hFc hU hW.alike⟩⟩ rfl rfl hl.1 rfl (lv_room (Nat.le_of_ble_eq_true rfl)) dX0_take_51 ⟨Nat.zero_le _, Nat.zero_le _⟩) hS (fun q _ h => hFc q h) hFc (fun u t H1 locs ht hvm hw hB hz1 hk1 hS => ?_)
    obtain ⟨hP1, hK1, hD1⟩ := hB
    rw [ht] at hP1
    have hK1 := va_K.moved hvm.symm hK1
    try dsimp only at hw
    obtain ⟨hP, hD⟩ := va_join (wr := []) (w1 := [(h, .inr (0, [.ref w, .int (nI (n + 1)), .int ((ks_mix wd1 v).1), .int ((ks_mix wd1 v).2.1), .int ((ks_mix wd1 v).2.2.1), .int ((ks_mix wd1 v).2.2.2)])), (w, .inl (cI, 16, .inl wd1))]) hP hD [0, 1] [] rfl rfl (by decide) (by decide) hk1 hFc hP1 hD1
    have hP := hP.sub (ws' := [(h, .inr (0, [.ref w, .int (nI (n + 1)), .int ((ks_mix wd1 v).1), .int ((ks_mix wd1 v).2.1), .int ((ks_mix wd1 v).2.2.1), .int ((ks_mix wd1 v).2.2.2)])), (w, .inl (cI, 16, .inl wd1))]) [0, 1] rfl
    have hD := hD.sub (ws' := [(h, .inr (0, [.ref w, .int (nI (n + 1)), .int ((ks_mix wd1 v).1), .int ((ks_mix wd1 v).2.1), .int ((ks_mix wd1 v).2.2.1), .int ((ks_mix wd1 v).2.2.2)])), (w, .inl (cI, 16, .inl wd1))]) [0, 1] (by decide) rfl
    generalize H1 = H at hP hS ⊢
    have hP : va_P (dC, dI) vwCl [(h, .inr (0, [.ref w, .int (nI (n + 1)), .int ((ks_mix wd1 v).1), .int ((ks_mix wd1 v).2.1), .int ((ks_mix wd1 v).2.2.1), .int ((ks_mix wd1 v).2.2.2)])), (w, .inl (cI, 16, .inl wd1))] H := hP
    have hD : va_D A [(h, .inr (0, [.ref w, .int (nI (n + 1)), .int ((ks_mix wd1 v).1), .int ((ks_mix wd1 v).2.1), .int ((ks_mix wd1 v).2.2.1), .int ((ks_mix wd1 v).2.2.2)])), (w, .inl (cI, 16, .inl wd1))] := hD
    have hP9 := hP.sub (ws' := [(h, .inr (0, [.ref w, .int (nI (n + 1)), .int ((ks_mix wd1 v).1), .int ((ks_mix wd1 v).2.1), .int ((ks_mix wd1 v).2.2.1), .int ((ks_mix wd1 v).2.2.2)])), (w, .inl (cI, 16, .inl wd1))]) [0, 1] rfl
    have hD9 := hD.sub (ws' := [(h, .inr (0, [.ref w, .int (nI (n + 1)), .int ((ks_mix wd1 v).1), .int ((ks_mix wd1 v).2.1), .int ((ks_mix wd1 v).2.2.1), .int ((ks_mix wd1 v).2.2.2)])), (w, .inl (cI, 16, .inl wd1))]) [0, 1] (by decide) rfl
    have hK9 := hK.sub (tys' := [(cI, .int)]) [0] rfl
    exact W.vret hx hb hr (fun t ht hW => ⟨⟨(wd1, ks_mix wd1 v), rfl, hi2, by rw [ht]; exact hP9, va_K.moved hW.alike hK9, hD9⟩, hS.F ht⟩) hS.2.2 dX0_take_54
