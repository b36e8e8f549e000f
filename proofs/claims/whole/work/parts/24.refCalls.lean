set_option maxHeartbeats 4000000 in
set_option maxRecDepth 100000 in
/-- add -/
theorem r_add (l : Launch) (dC : Nat → ClassId) (dI : Nat → Nat → Nat) (sz : Nat) (h ac au ab ae am ap ak al af an ar : Nat) (cJ : ClassId) (sm : Int32) (tn n : Nat) (bl fr fn ft f : Nat → Int32) (h1 : tn ≤ 2000) (h2 : n + tn < 2 ^ 28) (hi : rf_inv f n bl fr) (hf : ∀ j, j < tn → f (n + j) &&& 255 = ft j &&& 255) : Met l yX2_add wsX2_add ({ frames := 3, cells := 0, slots := 0, locals := 90 }) (va_Pc [.ref h] (fun U => U.heap.size = sz ∧ va_P (dC, dI) vwCl [(h, .inr (2, [.ref ac, .ref au, .ref ab, .ref ae, .ref am, .ref ap, .int (nI tn), .ref ak, .ref al, .ref af, .ref an, .int (nI n), .ref ar, .int sm])), (ac, .inl (cJ, 64, .inl ks_k)), (au, .inl (cJ, 16, .inl ks_tt)), (ae, .inl (cJ, 4, .inl ks_tmI)), (am, .inl (cJ, 4, .inl ks_moI)), (al, .inl (cJ, 64, .inl bl)), (af, .inl (cJ, 4, .inl fr)), (an, .inl (cJ, 4, .inl fn)), (ap, .inl (cJ, 2000, .inl ft))] U.heap ∧ va_K (dC, dI) vwCl [(cJ, .int)] U ∧ va_D (fun _ => True) [(h, .inr (2, [.ref ac, .ref au, .ref ab, .ref ae, .ref am, .ref ap, .int (nI tn), .ref ak, .ref al, .ref af, .ref an, .int (nI n), .ref ar, .int sm])), (ac, .inl (cJ, 64, .inl ks_k)), (au, .inl (cJ, 16, .inl ks_tt)), (ae, .inl (cJ, 4, .inl ks_tmI)), (am, .inl (cJ, 4, .inl ks_moI)), (al, .inl (cJ, 64, .inl bl)), (af, .inl (cJ, 4, .inl fr)), (an, .inl (cJ, 4, .inl fn)), (ap, .inl (cJ, 2000, .inl ft))])) (va_Qi (fun (r : Int32) (u : (Nat → Int32) × (Nat → Int32) × (Nat → Int32)) => r = nI (n + tn) ∧ rf_inv f (n + tn) u.1 u.2.1) (fun (u : (Nat → Int32) × (Nat → Int32) × (Nat → Int32)) t => kz_B dC dI [(cJ, .int)] (va_A [(h, .inr (2, [.ref ac, .ref au, .ref ab, .ref ae, .ref am, .ref ap, .int (nI tn), .ref ak, .ref al, .ref af, .ref an, .int (nI n), .ref ar, .int sm])), (ac, .inl (cJ, 64, .inl ks_k)), (au, .inl (cJ, 16, .inl ks_tt)), (ae, .inl (cJ, 4, .inl ks_tmI)), (am, .inl (cJ, 4, .inl ks_moI)), (al, .inl (cJ, 64, .inl bl)), (af, .inl (cJ, 4, .inl fr)), (an, .inl (cJ, 4, .inl fn)), (ap, .inl (cJ, 2000, .inl ft))] sz) [(h, .inr (2, [.ref ac, .ref au, .ref ab, .ref ae, .ref am, .ref ap, .int (nI 0), .ref ak, .ref al, .ref af, .ref an, .int (nI (n + tn)), .ref ar, .int sm])), (ac, .inl (cJ, 64, .inl ks_k)), (au, .inl (cJ, 16, .inl ks_tt)), (ae, .inl (cJ, 4, .inl ks_tmI)), (am, .inl (cJ, 4, .inl ks_moI)), (al, .inl (cJ, 64, .inl u.1)), (af, .inl (cJ, 4, .inl u.2.1)), (an, .inl (cJ, 4, .inl u.2.2)), (ap, .inl (cJ, 2000, .inl ft))] t) (va_A [(h, .inr (2, [.ref ac, .ref au, .ref ab, .ref ae, .ref am, .ref ap, .int (nI tn), .ref ak, .ref al, .ref af, .ref an, .int (nI n), .ref ar, .int sm])), (ac, .inl (cJ, 64, .inl ks_k)), (au, .inl (cJ, 16, .inl ks_tt)), (ae, .inl (cJ, 4, .inl ks_tmI)), (am, .inl (cJ, 4, .inl ks_moI)), (al, .inl (cJ, 64, .inl bl)), (af, .inl (cJ, 4, .inl fr)), (an, .inl (cJ, 4, .inl fn)), (ap, .inl (cJ, 2000, .inl ft))] sz)) 0 0 (va_A [(h, .inr (2, [.ref ac, .ref au, .ref ab, .ref ae, .ref am, .ref ap, .int (nI tn), .ref ak, .ref al, .ref af, .ref an, .int (nI n), .ref ar, .int sm])), (ac, .inl (cJ, 64, .inl ks_k)), (au, .inl (cJ, 16, .inl ks_tt)), (ae, .inl (cJ, 4, .inl ks_tmI)), (am, .inl (cJ, 4, .inl ks_moI)), (al, .inl (cJ, 64, .inl bl)), (af, .inl (cJ, 4, .inl fr)), (an, .inl (cJ, 4, .inl fn)), (ap, .inl (cJ, 2000, .inl ft))] sz) := by
  refine Met.ofW (cc := cX2_add) (maxL := 2) (ret := (some .int)) (by decide) rfl ?_
  intro p e s m args below meth c s₁ B hml hv
  obtain ⟨rfl, hsz, hP, hK, hD0⟩ := hv
  have hx := B.exec
  have hb := B.bytes
  have hr := B.returns
  have hts := atoms_spec (ws := wsX2_add) B.pre
  have hown : s.vm.findClass RX2 = some m.cls := findClass_of_methodNamed B.named
  have hlocks := B.notSynchronized
  subst hsz
  have hD := hD0.self (sz := s.heap.size)
  generalize hAe : va_A [(h, .inr (2, [.ref ac, .ref au, .ref ab, .ref ae, .ref am, .ref ap, .int (nI tn), .ref ak, .ref al, .ref af, .ref an, .int (nI n), .ref ar, .int sm])), (ac, .inl (cJ, 64, .inl ks_k)), (au, .inl (cJ, 16, .inl ks_tt)), (ae, .inl (cJ, 4, .inl ks_tmI)), (am, .inl (cJ, 4, .inl ks_moI)), (al, .inl (cJ, 64, .inl bl)), (af, .inl (cJ, 4, .inl fr)), (an, .inl (cJ, 4, .inl fn)), (ap, .inl (cJ, 2000, .inl ft))] s.heap.size = A at hD  ⊢
  have hA : ∀ q : Nat, s.heap.size ≤ q → A q := fun q h => by rw [← hAe]; exact Or.inr h
  have hS : va_S A s.heap s.heap [] := va_S.rf
  have hP : va_P (dC, dI) vwCl [(h, .inr (2, [.ref ac, .ref au, .ref ab, .ref ae, .ref am, .ref ap, .int (nI tn), .ref ak, .ref al, .ref af, .ref an, .int (nI n), .ref ar, .int sm])), (ac, .inl (cJ, 64, .inl ks_k)), (au, .inl (cJ, 16, .inl ks_tt)), (ae, .inl (cJ, 4, .inl ks_tmI)), (am, .inl (cJ, 4, .inl ks_moI)), (al, .inl (cJ, 64, .inl bl)), (af, .inl (cJ, 4, .inl fr)), (an, .inl (cJ, 4, .inl fn)), (ap, .inl (cJ, 2000, .inl ft))] s.heap := hP
  have hl := lv_entry ([.ref h]) (n := 2) (Nat.le_of_ble_eq_true rfl)
  rw [lg_entry_eq]
  generalize (lg_sl ([.ref h]) ++ List.replicate (2 - (lg_sl ([.ref h])).length) Slot.unset).toArray = ls at hl ⊢
  have hl : lv_has ls 2 [(0, .ref h)] := hl
  refine lv_iconst (v := 0) hx hb dX2_add_0 (by decide) ?_
  refine kz_top (y := nI 0) nI_0.symm ?_
  refine lv_istore_n (lv' := [(1, .int (nI 0)), (0, .ref h)]) hx hb dX2_add_1 rfl hl (by decide) rfl (fun ls hl => ?_)
  refine kz_loop (σ := (Nat → Int32) × (Nat → Int32) × (Nat → Int32)) (fun i x ls H locs => rf_inv f (n + i) x.1 x.2.1 ∧ lv_has ls 2 [(1, .int (nI i)), (0, .ref h)] ∧ va_P (dC, dI) vwCl [(h, .inr (2, [.ref ac, .ref au, .ref ab, .ref ae, .ref am, .ref ap, .int (nI tn), .ref ak, .ref al, .ref af, .ref an, .int (nI (n + i)), .ref ar, .int sm])), (ac, .inl (cJ, 64, .inl ks_k)), (au, .inl (cJ, 16, .inl ks_tt)), (ae, .inl (cJ, 4, .inl ks_tmI)), (am, .inl (cJ, 4, .inl ks_moI)), (al, .inl (cJ, 64, .inl x.1)), (af, .inl (cJ, 4, .inl x.2.1)), (an, .inl (cJ, 4, .inl x.2.2)), (ap, .inl (cJ, 2000, .inl ft))] H ∧ va_D A [(h, .inr (2, [.ref ac, .ref au, .ref ab, .ref ae, .ref am, .ref ap, .int (nI tn), .ref ak, .ref al, .ref af, .ref an, .int (nI (n + i)), .ref ar, .int sm])), (ac, .inl (cJ, 64, .inl ks_k)), (au, .inl (cJ, 16, .inl ks_tt)), (ae, .inl (cJ, 4, .inl ks_tmI)), (am, .inl (cJ, 4, .inl ks_moI)), (al, .inl (cJ, 64, .inl x.1)), (af, .inl (cJ, 4, .inl x.2.1)), (an, .inl (cJ, 4, .inl x.2.2)), (ap, .inl (cJ, 2000, .inl ft))] ∧ va_S A s.heap H locs) tn ?_ ?_ 0 (bl, fr, fn) ls _ _ (Nat.zero_le _) ⟨hi, hl, hP, hD, hS⟩
  · skip
    intro i x ls H locs hlt hI ih
    obtain ⟨hv, hl, hP, hD, hS⟩ := hI
    refine lv_iload_n hx hb dX2_add_2 rfl (lv_at hl 0 rfl) ?_
    refine lv_aload_n hx hb dX2_add_3 rfl (lv_at hl 1 rfl) ?_
    refine va_get (D := (dC, dI)) (ci := 2) (v := .int (nI tn)) (C := RX2) (T := TX2) (N := 14) hx hb hts (by decide +kernel) hown hK hP 0 rfl rfl 6 (by decide) (hts (.fieldLink RX2 118 "KeySumsModel" "size" "I") (by decide +kernel)) (fun _ h9 => h9) rfl dX2_add_4 ?_
    refine lv_icmp_ge (tgt := 26) hx hb dX2_add_7 (by decide) (fun hc => ?_) (fun hc => ?_)
    · skip
      exact absurd hc (nI_ge hlt (by omega))
    · skip
      refine lv_aload_n hx hb dX2_add_10 rfl (lv_at hl 1 rfl) ?_
      refine lv_aload_n hx hb dX2_add_11 rfl (lv_at hl 1 rfl) ?_
      refine va_get (D := (dC, dI)) (ci := 2) (v := .ref ap) (C := RX2) (T := TX2) (N := 14) hx hb hts (by decide +kernel) hown hK hP 0 rfl rfl 5 (by decide) (hts (.fieldLink RX2 93 "KeySumsModel" "tape" "[I") (by decide +kernel)) (fun _ h9 => h9) rfl dX2_add_12 ?_
      refine lv_iload_n hx hb dX2_add_15 rfl (lv_at hl 0 rfl) ?_
      refine kz_iald (j := i) hx hb hK hP 8 0 rfl rfl (show i < 2000 by omega) (by decide) dX2_add_16 ?_
      have hPc := hP.sub (ws' := [(h, .inr (2, [.ref ac, .ref au, .ref ab, .ref ae, .ref am, .ref ap, .int (nI tn), .ref ak, .ref al, .ref af, .ref an, .int (nI (n + i)), .ref ar, .int sm])), (ac, .inl (cJ, 64, .inl ks_k)), (au, .inl (cJ, 16, .inl ks_tt)), (ae, .inl (cJ, 4, .inl ks_tmI)), (am, .inl (cJ, 4, .inl ks_moI)), (al, .inl (cJ, 64, .inl x.1)), (af, .inl (cJ, 4, .inl x.2.1)), (an, .inl (cJ, 4, .inl x.2.2))]) [0, 1, 2, 3, 4, 5, 6, 7] rfl
      have hDc := hD.sub (ws' := [(h, .inr (2, [.ref ac, .ref au, .ref ab, .ref ae, .ref am, .ref ap, .int (nI tn), .ref ak, .ref al, .ref af, .ref an, .int (nI (n + i)), .ref ar, .int sm])), (ac, .inl (cJ, 64, .inl ks_k)), (au, .inl (cJ, 16, .inl ks_tt)), (ae, .inl (cJ, 4, .inl ks_tmI)), (am, .inl (cJ, 4, .inl ks_moI)), (al, .inl (cJ, 64, .inl x.1)), (af, .inl (cJ, 4, .inl x.2.1)), (an, .inl (cJ, 4, .inl x.2.2))]) [0, 1, 2, 3, 4, 5, 6, 7] (by decide) rfl
      have hKc := hK.sub (tys' := [(cJ, .int)]) [0] rfl
      have hFc := va_free (wc := [(h, .inr (2, [.ref ac, .ref au, .ref ab, .ref ae, .ref am, .ref ap, .int (nI tn), .ref ak, .ref al, .ref af, .ref an, .int (nI (n + i)), .ref ar, .int sm])), (ac, .inl (cJ, 64, .inl ks_k)), (au, .inl (cJ, 16, .inl ks_tt)), (ae, .inl (cJ, 4, .inl ks_tmI)), (am, .inl (cJ, 4, .inl ks_moI)), (al, .inl (cJ, 64, .inl x.1)), (af, .inl (cJ, 4, .inl x.2.1)), (an, .inl (cJ, 4, .inl x.2.2))]) hD hS hA [0, 1, 2, 3, 4, 5, 6, 7] rfl
      refine va_callv (va_runV (As := [.int (ft i)]) (rest := []) ⟨hx, hb, hml, hown, hts⟩ (r_come l dC dI H.size h ac au ab ae am ap ak al af an ar cJ (nI tn) sm (n + i) x.1 x.2.1 x.2.2 f (ft i) (by omega) hv (hf i hlt)) (cwV 1 hts gX2_add_X2_come rfl rfl rfl (by decide +kernel) ⟨Nat.le_of_ble_eq_true rfl, Nat.le_of_ble_eq_true rfl⟩) ⟨fun a U g mk q => by obtain ⟨q0, q1, qP, qK, qD⟩ := q; exact ⟨q0, q1, qP, va_K.moved (u := U) (U := U.calling g mk a) (Vm.Alike.refl U.vm) qK, qD⟩, va_recv hKc hPc (ci := 2) (q0 := 0) rfl rfl, fun U hU hW => ⟨rfl, by rw [hU], by rw [hU]; exact hPc, va_K.moved hW.alike hKc, hDc.weaken (fun _ _ _ _ => trivial)⟩⟩ rfl rfl hl.1 rfl (lv_room (Nat.le_of_ble_eq_true rfl)) dX2_add_17 ⟨Nat.zero_le _, Nat.zero_le _⟩) hS (fun q _ h => hFc q h) hFc (fun u t H1 locs ht hvm hw hB hz1 hk1 hS => ?_)
      obtain ⟨b2, f2, n2⟩ := u
      obtain ⟨hP1, hK1, hD1⟩ := hB
      rw [ht] at hP1
      have hK1 := va_K.moved hvm.symm hK1
      try dsimp only at hw
      obtain ⟨hP, hD⟩ := va_join (wr := [(ap, .inl (cJ, 2000, .inl ft))]) (w1 := [(h, .inr (2, [.ref ac, .ref au, .ref ab, .ref ae, .ref am, .ref ap, .int (nI tn), .ref ak, .ref al, .ref af, .ref an, .int (nI (n + i + 1)), .ref ar, .int sm])), (ac, .inl (cJ, 64, .inl ks_k)), (au, .inl (cJ, 16, .inl ks_tt)), (ae, .inl (cJ, 4, .inl ks_tmI)), (am, .inl (cJ, 4, .inl ks_moI)), (al, .inl (cJ, 64, .inl b2)), (af, .inl (cJ, 4, .inl f2)), (an, .inl (cJ, 4, .inl n2))]) hP hD [0, 1, 2, 3, 4, 5, 6, 7] [8] rfl rfl (by decide) (by decide) hk1 hFc hP1 hD1
      have hP := hP.sub (ws' := [(h, .inr (2, [.ref ac, .ref au, .ref ab, .ref ae, .ref am, .ref ap, .int (nI tn), .ref ak, .ref al, .ref af, .ref an, .int (nI (n + i + 1)), .ref ar, .int sm])), (ac, .inl (cJ, 64, .inl ks_k)), (au, .inl (cJ, 16, .inl ks_tt)), (ae, .inl (cJ, 4, .inl ks_tmI)), (am, .inl (cJ, 4, .inl ks_moI)), (al, .inl (cJ, 64, .inl b2)), (af, .inl (cJ, 4, .inl f2)), (an, .inl (cJ, 4, .inl n2)), (ap, .inl (cJ, 2000, .inl ft))]) [1, 2, 3, 4, 5, 6, 7, 8, 0] rfl
      have hD := hD.sub (ws' := [(h, .inr (2, [.ref ac, .ref au, .ref ab, .ref ae, .ref am, .ref ap, .int (nI tn), .ref ak, .ref al, .ref af, .ref an, .int (nI (n + i + 1)), .ref ar, .int sm])), (ac, .inl (cJ, 64, .inl ks_k)), (au, .inl (cJ, 16, .inl ks_tt)), (ae, .inl (cJ, 4, .inl ks_tmI)), (am, .inl (cJ, 4, .inl ks_moI)), (al, .inl (cJ, 64, .inl b2)), (af, .inl (cJ, 4, .inl f2)), (an, .inl (cJ, 4, .inl n2)), (ap, .inl (cJ, 2000, .inl ft))]) [1, 2, 3, 4, 5, 6, 7, 8, 0] (by decide) rfl
      generalize H1 = H at hP hS ⊢
      have hP : va_P (dC, dI) vwCl [(h, .inr (2, [.ref ac, .ref au, .ref ab, .ref ae, .ref am, .ref ap, .int (nI tn), .ref ak, .ref al, .ref af, .ref an, .int (nI (n + i + 1)), .ref ar, .int sm])), (ac, .inl (cJ, 64, .inl ks_k)), (au, .inl (cJ, 16, .inl ks_tt)), (ae, .inl (cJ, 4, .inl ks_tmI)), (am, .inl (cJ, 4, .inl ks_moI)), (al, .inl (cJ, 64, .inl b2)), (af, .inl (cJ, 4, .inl f2)), (an, .inl (cJ, 4, .inl n2)), (ap, .inl (cJ, 2000, .inl ft))] H := hP
      have hD : va_D A [(h, .inr (2, [.ref ac, .ref au, .ref ab, .ref ae, .ref am, .ref ap, .int (nI tn), .ref ak, .ref al, .ref af, .ref an, .int (nI (n + i + 1)), .ref ar, .int sm])), (ac, .inl (cJ, 64, .inl ks_k)), (au, .inl (cJ, 16, .inl ks_tt)), (ae, .inl (cJ, 4, .inl ks_tmI)), (am, .inl (cJ, 4, .inl ks_moI)), (al, .inl (cJ, 64, .inl b2)), (af, .inl (cJ, 4, .inl f2)), (an, .inl (cJ, 4, .inl n2)), (ap, .inl (cJ, 2000, .inl ft))] := hD
      refine lv_iinc (v := nI (i + 1)) (lv' := [(1, .int (nI (i + 1))), (0, .ref h)]) hx hb dX2_add_20 hl (k := 0) rfl (nI_1 i) (by decide) rfl (fun ls hl => ?_)
      refine lv_goto (tgt := 2) hx hb dX2_add_23 (by decide) ?_
      exact ih (b2, f2, n2) ls H locs ⟨hw, lv_sub hl [0, 1] rfl, hP, hD, hS⟩
  · skip
    intro x ls H locs hI
    obtain ⟨hv, hl, hP, hD, hS⟩ := hI
    refine lv_iload_n hx hb dX2_add_2 rfl (lv_at hl 0 rfl) ?_
    refine lv_aload_n hx hb dX2_add_3 rfl (lv_at hl 1 rfl) ?_
    refine va_get (D := (dC, dI)) (ci := 2) (v := .int (nI tn)) (C := RX2) (T := TX2) (N := 14) hx hb hts (by decide +kernel) hown hK hP 0 rfl rfl 6 (by decide) (hts (.fieldLink RX2 118 "KeySumsModel" "size" "I") (by decide +kernel)) (fun _ h9 => h9) rfl dX2_add_4 ?_
    refine lv_icmp_ge (tgt := 26) hx hb dX2_add_7 (by decide) (fun hc => ?_) (fun hc => ?_)
    · skip
      refine lv_aload_n hx hb dX2_add_26 rfl (lv_at hl 1 rfl) ?_
      refine lv_iconst (v := 0) hx hb dX2_add_27 (by decide) ?_
      refine kz_top (y := nI 0) nI_0.symm ?_
      refine va_put (D := (dC, dI)) (ci := 2) (v := .int (nI 0)) (ty := .int) (C := RX2) (T := TX2) (N := 14) hx hb hts (by decide +kernel) tyX2 tyX2_ok nmX2 hown hK hP hD hS 0 rfl rfl 6 (by decide) (hts (.fieldLink RX2 118 "KeySumsModel" "size" "I") (by decide +kernel)) (fun _ h9 => h9) rfl (by decide +kernel) rfl rfl (Nat.le_of_ble_eq_true rfl) dX2_add_28 (fun H locs hP hD hS => ?_)
      have hP : va_P (dC, dI) vwCl [(h, .inr (2, [.ref ac, .ref au, .ref ab, .ref ae, .ref am, .ref ap, .int (nI 0), .ref ak, .ref al, .ref af, .ref an, .int (nI (n + tn)), .ref ar, .int sm])), (ac, .inl (cJ, 64, .inl ks_k)), (au, .inl (cJ, 16, .inl ks_tt)), (ae, .inl (cJ, 4, .inl ks_tmI)), (am, .inl (cJ, 4, .inl ks_moI)), (al, .inl (cJ, 64, .inl x.1)), (af, .inl (cJ, 4, .inl x.2.1)), (an, .inl (cJ, 4, .inl x.2.2)), (ap, .inl (cJ, 2000, .inl ft))] H := hP
      have hD : va_D A [(h, .inr (2, [.ref ac, .ref au, .ref ab, .ref ae, .ref am, .ref ap, .int (nI 0), .ref ak, .ref al, .ref af, .ref an, .int (nI (n + tn)), .ref ar, .int sm])), (ac, .inl (cJ, 64, .inl ks_k)), (au, .inl (cJ, 16, .inl ks_tt)), (ae, .inl (cJ, 4, .inl ks_tmI)), (am, .inl (cJ, 4, .inl ks_moI)), (al, .inl (cJ, 64, .inl x.1)), (af, .inl (cJ, 4, .inl x.2.1)), (an, .inl (cJ, 4, .inl x.2.2)), (ap, .inl (cJ, 2000, .inl ft))] := hD
      refine lv_aload_n hx hb dX2_add_31 rfl (lv_at hl 1 rfl) ?_
      refine va_get (D := (dC, dI)) (ci := 2) (v := .int (nI (n + tn))) (C := RX2) (T := TX2) (N := 14) hx hb hts (by decide +kernel) hown hK hP 0 rfl rfl 11 (by decide) (hts (.fieldLink RX2 114 "KeySumsModel" "many" "I") (by decide +kernel)) (fun _ h9 => h9) rfl dX2_add_32 ?_
      have hP9 := hP.sub (ws' := [(h, .inr (2, [.ref ac, .ref au, .ref ab, .ref ae, .ref am, .ref ap, .int (nI 0), .ref ak, .ref al, .ref af, .ref an, .int (nI (n + tn)), .ref ar, .int sm])), (ac, .inl (cJ, 64, .inl ks_k)), (au, .inl (cJ, 16, .inl ks_tt)), (ae, .inl (cJ, 4, .inl ks_tmI)), (am, .inl (cJ, 4, .inl ks_moI)), (al, .inl (cJ, 64, .inl x.1)), (af, .inl (cJ, 4, .inl x.2.1)), (an, .inl (cJ, 4, .inl x.2.2)), (ap, .inl (cJ, 2000, .inl ft))]) [0, 1, 2, 3, 4, 5, 6, 7, 8] rfl
      have hD9 := hD.sub (ws' := [(h, .inr (2, [.ref ac, .ref au, .ref ab, .ref ae, .ref am, .ref ap, .int (nI 0), .ref ak, .ref al, .ref af, .ref an, .int (nI (n + tn)), .ref ar, .int sm])), (ac, .inl (cJ, 64, .inl ks_k)), (au, .inl (cJ, 16, .inl ks_tt)), (ae, .inl (cJ, 4, .inl ks_tmI)), (am, .inl (cJ, 4, .inl ks_moI)), (al, .inl (cJ, 64, .inl x.1)), (af, .inl (cJ, 4, .inl x.2.1)), (an, .inl (cJ, 4, .inl x.2.2)), (ap, .inl (cJ, 2000, .inl ft))]) [0, 1, 2, 3, 4, 5, 6, 7, 8] (by decide) rfl
      have hK9 := hK.sub (tys' := [(cJ, .int)]) [0] rfl
      exact W.iret (v := (nI (n + tn))) hx hb hr (fun t ht hW => ⟨⟨(nI (n + tn)), x, rfl, ⟨rfl, hv⟩, by rw [ht]; exact hP9, va_K.moved hW.alike hK9, hD9⟩, hS.F ht⟩) hS.2.2 dX2_add_35
    · skip
      exact absurd (nI_le (Nat.le_refl _) (by omega)) hc

set_option maxHeartbeats 4000000 in
set_option maxRecDepth 100000 in
/-- fill, refused -/
theorem r_fill_no (l : Launch) (dC : Nat → ClassId) (dI : Nat → Nat → Nat) (sz : Nat) (h ac au ab ae am ap ak al af an ar : Nat) (cJ : ClassId) (sz0 mm sm : Int32) (y x : Int32) (h1 : y < 0 ∨ 4000 < y) : Met l yX2_fill wsX2_fill ({ frames := 0, cells := 0, slots := 0, locals := 0 }) (va_Pc [.ref h, .int y, .int x] (fun U => U.heap.size = sz ∧ va_P (dC, dI) vwCl [(h, .inr (2, [.ref ac, .ref au, .ref ab, .ref ae, .ref am, .ref ap, .int sz0, .ref ak, .ref al, .ref af, .ref an, .int mm, .ref ar, .int sm]))] U.heap ∧ va_K (dC, dI) vwCl [] U ∧ va_D (fun _ => True) [(h, .inr (2, [.ref ac, .ref au, .ref ab, .ref ae, .ref am, .ref ap, .int sz0, .ref ak, .ref al, .ref af, .ref an, .int mm, .ref ar, .int sm]))])) (vp_Si (fun r => r = -1)) 0 0 (fun _ => False) := by
  refine Met.ofW (cc := cX2_fill) (maxL := 4) (ret := (some .int)) (by decide) rfl ?_
  intro p e s m args below meth c s₁ B hml hv
  obtain ⟨rfl, hsz, hP, hK, hD0⟩ := hv
  have hx := B.exec
  have hb := B.bytes
  have hr := B.returns
  have hts := atoms_spec (ws := wsX2_fill) B.pre
  have hown : s.vm.findClass RX2 = some m.cls := findClass_of_methodNamed B.named
  have hlocks := B.notSynchronized
  subst hsz
  have hD := hD0.self (sz := s.heap.size)
  generalize hAe : va_A [(h, .inr (2, [.ref ac, .ref au, .ref ab, .ref ae, .ref am, .ref ap, .int sz0, .ref ak, .ref al, .ref af, .ref an, .int mm, .ref ar, .int sm]))] s.heap.size = A at hD  ⊢
  have hA : ∀ q : Nat, s.heap.size ≤ q → A q := fun q h => by rw [← hAe]; exact Or.inr h
  have hS : va_S A s.heap s.heap [] := va_S.rf
  have hP : va_P (dC, dI) vwCl [(h, .inr (2, [.ref ac, .ref au, .ref ab, .ref ae, .ref am, .ref ap, .int sz0, .ref ak, .ref al, .ref af, .ref an, .int mm, .ref ar, .int sm]))] s.heap := hP
  have hl := lv_entry ([.ref h, .int y, .int x]) (n := 4) (Nat.le_of_ble_eq_true rfl)
  rw [lg_entry_eq]
  generalize (lg_sl ([.ref h, .int y, .int x]) ++ List.replicate (4 - (lg_sl ([.ref h, .int y, .int x])).length) Slot.unset).toArray = ls at hl ⊢
  have hl : lv_has ls 4 [(0, .ref h), (1, .int y), (2, .int x)] := hl
  refine lv_iload_n hx hb dX2_fill_0 rfl (lv_at hl 1 rfl) ?_
  refine lv_if_lt (tgt := 11) hx hb dX2_fill_1 (by decide) (fun hc => ?_) (fun hc => ?_)
  · skip
    refine lv_iconst (v := (-1)) hx hb dX2_fill_11 (by decide) ?_
    exact W.iret (v := (-1)) hx hb hr (fun t ht hW => ⟨(-1), rfl, rfl, ht⟩) (fun q h => by cases h) dX2_fill_12
  · skip
    refine lv_iload_n hx hb dX2_fill_4 rfl (lv_at hl 1 rfl) ?_
    refine lv_sipush (v := 4000) hx hb dX2_fill_5 (by decide) ?_
    refine lv_icmp_le (tgt := 13) hx hb dX2_fill_8 (by decide) (fun hc => ?_) (fun hc => ?_)
    · skip
      exact absurd hc (h1.elim (fun q => absurd q (by assumption)) (fun q => Int32.not_le.mpr q))
    · skip
      refine lv_iconst (v := (-1)) hx hb dX2_fill_11 (by decide) ?_
      exact W.iret (v := (-1)) hx hb hr (fun t ht hW => ⟨(-1), rfl, rfl, ht⟩) (fun q h => by cases h) dX2_fill_12

set_option maxHeartbeats 4000000 in
set_option maxRecDepth 100000 in
/-- fill -/
theorem r_fill_ok (l : Launch) (dC : Nat → ClassId) (dI : Nat → Nat → Nat) (sz : Nat) (h ac au ab ae am ap ak al af an ar : Nat) (cJ : ClassId) (sz0 sm : Int32) (n k : Nat) (bl fr fn f : Nat → Int32) (x : Int32) (h1 : k ≤ 4000) (h2 : n + k < 2 ^ 28) (hi : rf_inv f n bl fr) (hf : ∀ j, j < k → f (n + j) &&& 255 = (x + 3 * nI j) &&& 255) : Met l yX2_fill wsX2_fill ({ frames := 3, cells := 0, slots := 0, locals := 90 }) (va_Pc [.ref h, .int (nI k), .int x] (fun U => U.heap.size = sz ∧ va_P (dC, dI) vwCl [(h, .inr (2, [.ref ac, .ref au, .ref ab, .ref ae, .ref am, .ref ap, .int sz0, .ref ak, .ref al, .ref af, .ref an, .int (nI n), .ref ar, .int sm])), (ac, .inl (cJ, 64, .inl ks_k)), (au, .inl (cJ, 16, .inl ks_tt)), (ae, .inl (cJ, 4, .inl ks_tmI)), (am, .inl (cJ, 4, .inl ks_moI)), (al, .inl (cJ, 64, .inl bl)), (af, .inl (cJ, 4, .inl fr)), (an, .inl (cJ, 4, .inl fn))] U.heap ∧ va_K (dC, dI) vwCl [(cJ, .int)] U ∧ va_D (fun _ => True) [(h, .inr (2, [.ref ac, .ref au, .ref ab, .ref ae, .ref am, .ref ap, .int sz0, .ref ak, .ref al, .ref af, .ref an, .int (nI n), .ref ar, .int sm])), (ac, .inl (cJ, 64, .inl ks_k)), (au, .inl (cJ, 16, .inl ks_tt)), (ae, .inl (cJ, 4, .inl ks_tmI)), (am, .inl (cJ, 4, .inl ks_moI)), (al, .inl (cJ, 64, .inl bl)), (af, .inl (cJ, 4, .inl fr)), (an, .inl (cJ, 4, .inl fn))])) (va_Qi (fun (r : Int32) (u : (Nat → Int32) × (Nat → Int32) × (Nat → Int32)) => r = nI (n + k) ∧ rf_inv f (n + k) u.1 u.2.1) (fun (u : (Nat → Int32) × (Nat → Int32) × (Nat → Int32)) t => kz_B dC dI [(cJ, .int)] (va_A [(h, .inr (2, [.ref ac, .ref au, .ref ab, .ref ae, .ref am, .ref ap, .int sz0, .ref ak, .ref al, .ref af, .ref an, .int (nI n), .ref ar, .int sm])), (ac, .inl (cJ, 64, .inl ks_k)), (au, .inl (cJ, 16, .inl ks_tt)), (ae, .inl (cJ, 4, .inl ks_tmI)), (am, .inl (cJ, 4, .inl ks_moI)), (al, .inl (cJ, 64, .inl bl)), (af, .inl (cJ, 4, .inl fr)), (an, .inl (cJ, 4, .inl fn))] sz) [(h, .inr (2, [.ref ac, .ref au, .ref ab, .ref ae, .ref am, .ref ap, .int sz0, .ref ak, .ref al, .ref af, .ref an, .int (nI (n + k)), .ref ar, .int sm])), (ac, .inl (cJ, 64, .inl ks_k)), (au, .inl (cJ, 16, .inl ks_tt)), (ae, .inl (cJ, 4, .inl ks_tmI)), (am, .inl (cJ, 4, .inl ks_moI)), (al, .inl (cJ, 64, .inl u.1)), (af, .inl (cJ, 4, .inl u.2.1)), (an, .inl (cJ, 4, .inl u.2.2))] t) (va_A [(h, .inr (2, [.ref ac, .ref au, .ref ab, .ref ae, .ref am, .ref ap, .int sz0, .ref ak, .ref al, .ref af, .ref an, .int (nI n), .ref ar, .int sm])), (ac, .inl (cJ, 64, .inl ks_k)), (au, .inl (cJ, 16, .inl ks_tt)), (ae, .inl (cJ, 4, .inl ks_tmI)), (am, .inl (cJ, 4, .inl ks_moI)), (al, .inl (cJ, 64, .inl bl)), (af, .inl (cJ, 4, .inl fr)), (an, .inl (cJ, 4, .inl fn))] sz)) 0 0 (va_A [(h, .inr (2, [.ref ac, .ref au, .ref ab, .ref ae, .ref am, .ref ap, .int sz0, .ref ak, .ref al, .ref af, .ref an, .int (nI n), .ref ar, .int sm])), (ac, .inl (cJ, 64, .inl ks_k)), (au, .inl (cJ, 16, .inl ks_tt)), (ae, .inl (cJ, 4, .inl ks_tmI)), (am, .inl (cJ, 4, .inl ks_moI)), (al, .inl (cJ, 64, .inl bl)), (af, .inl (cJ, 4, .inl fr)), (an, .inl (cJ, 4, .inl fn))] sz) := by
  refine Met.ofW (cc := cX2_fill) (maxL := 4) (ret := (some .int)) (by decide) rfl ?_
  intro p e s m args below meth c s₁ B hml hv
  obtain ⟨rfl, hsz, hP, hK, hD0⟩ := hv
  have hx := B.exec
  have hb := B.bytes
  have hr := B.returns
  have hts := atoms_spec (ws := wsX2_fill) B.pre
  have hown : s.vm.findClass RX2 = some m.cls := findClass_of_methodNamed B.named
  have hlocks := B.notSynchronized
  subst hsz
  have hD := hD0.self (sz := s.heap.size)
  generalize hAe : va_A [(h, .inr (2, [.ref ac, .ref au, .ref ab, .ref ae, .ref am, .ref ap, .int sz0, .ref ak, .ref al, .ref af, .ref an, .int (nI n), .ref ar, .int sm])), (ac, .inl (cJ, 64, .inl ks_k)), (au, .inl (cJ, 16, .inl ks_tt)), (ae, .inl (cJ, 4, .inl ks_tmI)), (am, .inl (cJ, 4, .inl ks_moI)), (al, .inl (cJ, 64, .inl bl)), (af, .inl (cJ, 4, .inl fr)), (an, .inl (cJ, 4, .inl fn))] s.heap.size = A at hD  ⊢
  have hA : ∀ q : Nat, s.heap.size ≤ q → A q := fun q h => by rw [← hAe]; exact Or.inr h
  have hS : va_S A s.heap s.heap [] := va_S.rf
  have hP : va_P (dC, dI) vwCl [(h, .inr (2, [.ref ac, .ref au, .ref ab, .ref ae, .ref am, .ref ap, .int sz0, .ref ak, .ref al, .ref af, .ref an, .int (nI n), .ref ar, .int sm])), (ac, .inl (cJ, 64, .inl ks_k)), (au, .inl (cJ, 16, .inl ks_tt)), (ae, .inl (cJ, 4, .inl ks_tmI)), (am, .inl (cJ, 4, .inl ks_moI)), (al, .inl (cJ, 64, .inl bl)), (af, .inl (cJ, 4, .inl fr)), (an, .inl (cJ, 4, .inl fn))] s.heap := hP
  have hl := lv_entry ([.ref h, .int (nI k), .int x]) (n := 4) (Nat.le_of_ble_eq_true rfl)
  rw [lg_entry_eq]
  generalize (lg_sl ([.ref h, .int (nI k), .int x]) ++ List.replicate (4 - (lg_sl ([.ref h, .int (nI k), .int x])).length) Slot.unset).toArray = ls at hl ⊢
  have hl : lv_has ls 4 [(0, .ref h), (1, .int (nI k)), (2, .int x)] := hl
  refine lv_iload_n hx hb dX2_fill_0 rfl (lv_at hl 1 rfl) ?_
  refine lv_if_lt (tgt := 11) hx hb dX2_fill_1 (by decide) (fun hc => ?_) (fun hc => ?_)
  · skip
    exact absurd hc (nI_pos (n := k) (by omega))
  · skip
    refine lv_iload_n hx hb dX2_fill_4 rfl (lv_at hl 1 rfl) ?_
    refine lv_sipush (v := 4000) hx hb dX2_fill_5 (by decide) ?_
    refine lv_icmp_le (tgt := 13) hx hb dX2_fill_8 (by decide) (fun hc => ?_) (fun hc => ?_)
    · skip
      refine lv_iconst (v := 0) hx hb dX2_fill_13 (by decide) ?_
      refine kz_top (y := nI 0) nI_0.symm ?_
      refine lv_istore_n (lv' := [(3, .int (nI 0)), (0, .ref h), (1, .int (nI k)), (2, .int x)]) hx hb dX2_fill_14 rfl hl (by decide) rfl (fun ls hl => ?_)
      refine kz_loop (σ := (Nat → Int32) × (Nat → Int32) × (Nat → Int32)) (fun i y ls H locs => rf_inv f (n + i) y.1 y.2.1 ∧ lv_has ls 4 [(3, .int (nI i)), (0, .ref h), (1, .int (nI k)), (2, .int x)] ∧ va_P (dC, dI) vwCl [(h, .inr (2, [.ref ac, .ref au, .ref ab, .ref ae, .ref am, .ref ap, .int sz0, .ref ak, .ref al, .ref af, .ref an, .int (nI (n + i)), .ref ar, .int sm])), (ac, .inl (cJ, 64, .inl ks_k)), (au, .inl (cJ, 16, .inl ks_tt)), (ae, .inl (cJ, 4, .inl ks_tmI)), (am, .inl (cJ, 4, .inl ks_moI)), (al, .inl (cJ, 64, .inl y.1)), (af, .inl (cJ, 4, .inl y.2.1)), (an, .inl (cJ, 4, .inl y.2.2))] H ∧ va_D A [(h, .inr (2, [.ref ac, .ref au, .ref ab, .ref ae, .ref am, .ref ap, .int sz0, .ref ak, .ref al, .ref af, .ref an, .int (nI (n + i)), .ref ar, .int sm])), (ac, .inl (cJ, 64, .inl ks_k)), (au, .inl (cJ, 16, .inl ks_tt)), (ae, .inl (cJ, 4, .inl ks_tmI)), (am, .inl (cJ, 4, .inl ks_moI)), (al, .inl (cJ, 64, .inl y.1)), (af, .inl (cJ, 4, .inl y.2.1)), (an, .inl (cJ, 4, .inl y.2.2))] ∧ va_S A s.heap H locs) k ?_ ?_ 0 (bl, fr, fn) ls _ _ (Nat.zero_le _) ⟨hi, lv_sub hl [0, 1, 2, 3] rfl, hP, hD, hS⟩
      · skip
        intro i y ls H locs hlt hI ih
        obtain ⟨hv, hl, hP, hD, hS⟩ := hI
        refine lv_iload_n hx hb dX2_fill_15 rfl (lv_at hl 0 rfl) ?_
        refine lv_iload_n hx hb dX2_fill_16 rfl (lv_at hl 2 rfl) ?_
        refine lv_icmp_ge (tgt := 35) hx hb dX2_fill_17 (by decide) (fun hc => ?_) (fun hc => ?_)
        · skip
          exact absurd hc (nI_ge hlt (by omega))
        · skip
          refine lv_aload_n hx hb dX2_fill_20 rfl (lv_at hl 1 rfl) ?_
          refine lv_iload_n hx hb dX2_fill_21 rfl (lv_at hl 3 rfl) ?_
          refine lv_iconst (v := 3) hx hb dX2_fill_22 (by decide) ?_
          refine lv_iload_n hx hb dX2_fill_23 rfl (lv_at hl 0 rfl) ?_
          refine lv_imul hx hb dX2_fill_24 ?_
          refine lv_iadd hx hb dX2_fill_25 ?_
          have hPc := hP.sub (ws' := [(h, .inr (2, [.ref ac, .ref au, .ref ab, .ref ae, .ref am, .ref ap, .int sz0, .ref ak, .ref al, .ref af, .ref an, .int (nI (n + i)), .ref ar, .int sm])), (ac, .inl (cJ, 64, .inl ks_k)), (au, .inl (cJ, 16, .inl ks_tt)), (ae, .inl (cJ, 4, .inl ks_tmI)), (am, .inl (cJ, 4, .inl ks_moI)), (al, .inl (cJ, 64, .inl y.1)), (af, .inl (cJ, 4, .inl y.2.1)), (an, .inl (cJ, 4, .inl y.2.2))]) [0, 1, 2, 3, 4, 5, 6, 7] rfl
          have hDc := hD.sub (ws' := [(h, .inr (2, [.ref ac, .ref au, .ref ab, .ref ae, .ref am, .ref ap, .int sz0, .ref ak, .ref al, .ref af, .ref an, .int (nI (n + i)), .ref ar, .int sm])), (ac, .inl (cJ, 64, .inl ks_k)), (au, .inl (cJ, 16, .inl ks_tt)), (ae, .inl (cJ, 4, .inl ks_tmI)), (am, .inl (cJ, 4, .inl ks_moI)), (al, .inl (cJ, 64, .inl y.1)), (af, .inl (cJ, 4, .inl y.2.1)), (an, .inl (cJ, 4, .inl y.2.2))]) [0, 1, 2, 3, 4, 5, 6, 7] (by decide) rfl
          have hKc := hK.sub (tys' := [(cJ, .int)]) [0] rfl
          have hFc := va_free (wc := [(h, .inr (2, [.ref ac, .ref au, .ref ab, .ref ae, .ref am, .ref ap, .int sz0, .ref ak, .ref al, .ref af, .ref an, .int (nI (n + i)), .ref ar, .int sm])), (ac, .inl (cJ, 64, .inl ks_k)), (au, .inl (cJ, 16, .inl ks_tt)), (ae, .inl (cJ, 4, .inl ks_tmI)), (am, .inl (cJ, 4, .inl ks_moI)), (al, .inl (cJ, 64, .inl y.1)), (af, .inl (cJ, 4, .inl y.2.1)), (an, .inl (cJ, 4, .inl y.2.2))]) hD hS hA [0, 1, 2, 3, 4, 5, 6, 7] rfl
          refine va_callv (va_runV (As := [.int (x + (3 * (nI i)))]) (rest := []) ⟨hx, hb, hml, hown, hts⟩ (r_come l dC dI H.size h ac au ab ae am ap ak al af an ar cJ sz0 sm (n + i) y.1 y.2.1 y.2.2 f (x + 3 * nI i) (by omega) hv (hf i hlt)) (cwV 1 hts gX2_fill_X2_come rfl rfl rfl (by decide +kernel) ⟨Nat.le_of_ble_eq_true rfl, Nat.le_of_ble_eq_true rfl⟩) ⟨fun a U g mk q => by obtain ⟨q0, q1, qP, qK, qD⟩ := q; exact ⟨q0, q1, qP, va_K.moved (u := U) (U := U.calling g mk a) (Vm.Alike.refl U.vm) qK, qD⟩, va_recv hKc hPc (ci := 2) (q0 := 0) rfl rfl, fun U hU hW => ⟨rfl, by rw [hU], by rw [hU]; exact hPc, va_K.moved hW.alike hKc, hDc.weaken (fun _ _ _ _ => trivial)⟩⟩ rfl rfl hl.1 rfl (lv_room (Nat.le_of_ble_eq_true rfl)) dX2_fill_26 ⟨Nat.zero_le _, Nat.zero_le _⟩) hS (fun q _ h => hFc q h) hFc (fun u t H1 locs ht hvm hw hB hz1 hk1 hS => ?_)
          obtain ⟨b2, f2, n2⟩ := u
          obtain ⟨hP1, hK1, hD1⟩ := hB
          rw [ht] at hP1
          have hK1 := va_K.moved hvm.symm hK1
          try dsimp only at hw
          obtain ⟨hP, hD⟩ := va_join (wr := []) (w1 := [(h, .inr (2, [.ref ac, .ref au, .ref ab, .ref ae, .ref am, .ref ap, .int sz0, .ref ak, .ref al, .ref af, .ref an, .int (nI (n + i + 1)), .ref ar, .int sm])), (ac, .inl (cJ, 64, .inl ks_k)), (au, .inl (cJ, 16, .inl ks_tt)), (ae, .inl (cJ, 4, .inl ks_tmI)), (am, .inl (cJ, 4, .inl ks_moI)), (al, .inl (cJ, 64, .inl b2)), (af, .inl (cJ, 4, .inl f2)), (an, .inl (cJ, 4, .inl n2))]) hP hD [0, 1, 2, 3, 4, 5, 6, 7] [] rfl rfl (by decide) (by decide) hk1 hFc hP1 hD1
          have hP := hP.sub (ws' := [(h, .inr (2, [.ref ac, .ref au, .ref ab, .ref ae, .ref am, .ref ap, .int sz0, .ref ak, .ref al, .ref af, .ref an, .int (nI (n + i + 1)), .ref ar, .int sm])), (ac, .inl (cJ, 64, .inl ks_k)), (au, .inl (cJ, 16, .inl ks_tt)), (ae, .inl (cJ, 4, .inl ks_tmI)), (am, .inl (cJ, 4, .inl ks_moI)), (al, .inl (cJ, 64, .inl b2)), (af, .inl (cJ, 4, .inl f2)), (an, .inl (cJ, 4, .inl n2))]) [0, 1, 2, 3, 4, 5, 6, 7] rfl
          have hD := hD.sub (ws' := [(h, .inr (2, [.ref ac, .ref au, .ref ab, .ref ae, .ref am, .ref ap, .int sz0, .ref ak, .ref al, .ref af, .ref an, .int (nI (n + i + 1)), .ref ar, .int sm])), (ac, .inl (cJ, 64, .inl ks_k)), (au, .inl (cJ, 16, .inl ks_tt)), (ae, .inl (cJ, 4, .inl ks_tmI)), (am, .inl (cJ, 4, .inl ks_moI)), (al, .inl (cJ, 64, .inl b2)), (af, .inl (cJ, 4, .inl f2)), (an, .inl (cJ, 4, .inl n2))]) [0, 1, 2, 3, 4, 5, 6, 7] (by decide) rfl
          generalize H1 = H at hP hS ⊢
          have hP : va_P (dC, dI) vwCl [(h, .inr (2, [.ref ac, .ref au, .ref ab, .ref ae, .ref am, .ref ap, .int sz0, .ref ak, .ref al, .ref af, .ref an, .int (nI (n + i + 1)), .ref ar, .int sm])), (ac, .inl (cJ, 64, .inl ks_k)), (au, .inl (cJ, 16, .inl ks_tt)), (ae, .inl (cJ, 4, .inl ks_tmI)), (am, .inl (cJ, 4, .inl ks_moI)), (al, .inl (cJ, 64, .inl b2)), (af, .inl (cJ, 4, .inl f2)), (an, .inl (cJ, 4, .inl n2))] H := hP
          have hD : va_D A [(h, .inr (2, [.ref ac, .ref au, .ref ab, .ref ae, .ref am, .ref ap, .int sz0, .ref ak, .ref al, .ref af, .ref an, .int (nI (n + i + 1)), .ref ar, .int sm])), (ac, .inl (cJ, 64, .inl ks_k)), (au, .inl (cJ, 16, .inl ks_tt)), (ae, .inl (cJ, 4, .inl ks_tmI)), (am, .inl (cJ, 4, .inl ks_moI)), (al, .inl (cJ, 64, .inl b2)), (af, .inl (cJ, 4, .inl f2)), (an, .inl (cJ, 4, .inl n2))] := hD
          refine lv_iinc (v := nI (i + 1)) (lv' := [(3, .int (nI (i + 1))), (0, .ref h), (1, .int (nI k)), (2, .int x)]) hx hb dX2_fill_29 hl (k := 0) rfl (nI_1 i) (by decide) rfl (fun ls hl => ?_)
          refine lv_goto (tgt := 15) hx hb dX2_fill_32 (by decide) ?_
          exact ih (b2, f2, n2) ls H locs ⟨hw, lv_sub hl [0, 1, 2, 3] rfl, hP, hD, hS⟩
      · skip
        intro y ls H locs hI
        obtain ⟨hv, hl, hP, hD, hS⟩ := hI
        refine lv_iload_n hx hb dX2_fill_15 rfl (lv_at hl 0 rfl) ?_
        refine lv_iload_n hx hb dX2_fill_16 rfl (lv_at hl 2 rfl) ?_
        refine lv_icmp_ge (tgt := 35) hx hb dX2_fill_17 (by decide) (fun hc => ?_) (fun hc => ?_)
        · skip
          refine lv_aload_n hx hb dX2_fill_35 rfl (lv_at hl 1 rfl) ?_
          refine va_get (D := (dC, dI)) (ci := 2) (v := .int (nI (n + k))) (C := RX2) (T := TX2) (N := 14) hx hb hts (by decide +kernel) hown hK hP 0 rfl rfl 11 (by decide) (hts (.fieldLink RX2 114 "KeySumsModel" "many" "I") (by decide +kernel)) (fun _ h9 => h9) rfl dX2_fill_36 ?_
          have hP9 := hP.sub (ws' := [(h, .inr (2, [.ref ac, .ref au, .ref ab, .ref ae, .ref am, .ref ap, .int sz0, .ref ak, .ref al, .ref af, .ref an, .int (nI (n + k)), .ref ar, .int sm])), (ac, .inl (cJ, 64, .inl ks_k)), (au, .inl (cJ, 16, .inl ks_tt)), (ae, .inl (cJ, 4, .inl ks_tmI)), (am, .inl (cJ, 4, .inl ks_moI)), (al, .inl (cJ, 64, .inl y.1)), (af, .inl (cJ, 4, .inl y.2.1)), (an, .inl (cJ, 4, .inl y.2.2))]) [0, 1, 2, 3, 4, 5, 6, 7] rfl
          have hD9 := hD.sub (ws' := [(h, .inr (2, [.ref ac, .ref au, .ref ab, .ref ae, .ref am, .ref ap, .int sz0, .ref ak, .ref al, .ref af, .ref an, .int (nI (n + k)), .ref ar, .int sm])), (ac, .inl (cJ, 64, .inl ks_k)), (au, .inl (cJ, 16, .inl ks_tt)), (ae, .inl (cJ, 4, .inl ks_tmI)), (am, .inl (cJ, 4, .inl ks_moI)), (al, .inl (cJ, 64, .inl y.1)), (af, .inl (cJ, 4, .inl y.2.1)), (an, .inl (cJ, 4, .inl y.2.2))]) [0, 1, 2, 3, 4, 5, 6, 7] (by decide) rfl
          have hK9 := hK.sub (tys' := [(cJ, .int)]) [0] rfl
          exact W.iret (v := (nI (n + k))) hx hb hr (fun t ht hW => ⟨⟨(nI (n + k)), y, rfl, ⟨rfl, hv⟩, by rw [ht]; exact hP9, va_K.moved hW.alike hK9, hD9⟩, hS.F ht⟩) hS.2.2 dX2_fill_39
        · skip
          exact absurd (nI_le (Nat.le_refl _) (by omega)) hc
    · skip
      exact absurd (nI_le (a := k) (b := 4000) h1 (by decide)) hc

set_option maxHeartbeats 4000000 in
set_option maxRecDepth 100000 in
/-- key, too long -/
theorem r_key_no (l : Launch) (dC : Nat → ClassId) (dI : Nat → Nat → Nat) (sz : Nat) (h ac au ab ae am ap ak al af an ar : Nat) (cJ : ClassId) (mm sm : Int32) (tn : Nat) (ft fk : Nat → Int32) (h1 : 16 < tn) (h2 : tn ≤ 2000) : Met l yX2_key wsX2_key ({ frames := 0, cells := 0, slots := 0, locals := 0 }) (va_Pc [.ref h] (fun U => U.heap.size = sz ∧ va_P (dC, dI) vwCl [(h, .inr (2, [.ref ac, .ref au, .ref ab, .ref ae, .ref am, .ref ap, .int (nI tn), .ref ak, .ref al, .ref af, .ref an, .int mm, .ref ar, .int sm])), (ap, .inl (cJ, 2000, .inl ft)), (ak, .inl (cJ, 16, .inl fk))] U.heap ∧ va_K (dC, dI) vwCl [(cJ, .int)] U ∧ va_D (fun _ => True) [(h, .inr (2, [.ref ac, .ref au, .ref ab, .ref ae, .ref am, .ref ap, .int (nI tn), .ref ak, .ref al, .ref af, .ref an, .int mm, .ref ar, .int sm])), (ap, .inl (cJ, 2000, .inl ft)), (ak, .inl (cJ, 16, .inl fk))])) (va_Qi (fun (r : Int32) (_u : Unit) => r = -1) (fun (_u : Unit) t => kz_B dC dI [(cJ, .int)] (va_A [(h, .inr (2, [.ref ac, .ref au, .ref ab, .ref ae, .ref am, .ref ap, .int (nI tn), .ref ak, .ref al, .ref af, .ref an, .int mm, .ref ar, .int sm])), (ap, .inl (cJ, 2000, .inl ft)), (ak, .inl (cJ, 16, .inl fk))] sz) [(h, .inr (2, [.ref ac, .ref au, .ref ab, .ref ae, .ref am, .ref ap, .int (nI 0), .ref ak, .ref al, .ref af, .ref an, .int mm, .ref ar, .int sm])), (ap, .inl (cJ, 2000, .inl ft)), (ak, .inl (cJ, 16, .inl fk))] t) (va_A [(h, .inr (2, [.ref ac, .ref au, .ref ab, .ref ae, .ref am, .ref ap, .int (nI tn), .ref ak, .ref al, .ref af, .ref an, .int mm, .ref ar, .int sm])), (ap, .inl (cJ, 2000, .inl ft)), (ak, .inl (cJ, 16, .inl fk))] sz)) 0 0 (va_A [(h, .inr (2, [.ref ac, .ref au, .ref ab, .ref ae, .ref am, .ref ap, .int (nI tn), .ref ak, .ref al, .ref af, .ref an, .int mm, .ref ar, .int sm])), (ap, .inl (cJ, 2000, .inl ft)), (ak, .inl (cJ, 16, .inl fk))] sz) := by
  refine Met.ofW (cc := cX2_key) (maxL := 3) (ret := (some .int)) (by decide) rfl ?_
  intro p e s m args below meth c s₁ B hml hv
  obtain ⟨rfl, hsz, hP, hK, hD0⟩ := hv
  have hx := B.exec
  have hb := B.bytes
  have hr := B.returns
  have hts := atoms_spec (ws := wsX2_key) B.pre
  have hown : s.vm.findClass RX2 = some m.cls := findClass_of_methodNamed B.named
  have hlocks := B.notSynchronized
  subst hsz
  have hD := hD0.self (sz := s.heap.size)
  generalize hAe : va_A [(h, .inr (2, [.ref ac, .ref au, .ref ab, .ref ae, .ref am, .ref ap, .int (nI tn), .ref ak, .ref al, .ref af, .ref an, .int mm, .ref ar, .int sm])), (ap, .inl (cJ, 2000, .inl ft)), (ak, .inl (cJ, 16, .inl fk))] s.heap.size = A at hD  ⊢
  have hA : ∀ q : Nat, s.heap.size ≤ q → A q := fun q h => by rw [← hAe]; exact Or.inr h
  have hS : va_S A s.heap s.heap [] := va_S.rf
  have hP : va_P (dC, dI) vwCl [(h, .inr (2, [.ref ac, .ref au, .ref ab, .ref ae, .ref am, .ref ap, .int (nI tn), .ref ak, .ref al, .ref af, .ref an, .int mm, .ref ar, .int sm])), (ap, .inl (cJ, 2000, .inl ft)), (ak, .inl (cJ, 16, .inl fk))] s.heap := hP
  have hl := lv_entry ([.ref h]) (n := 3) (Nat.le_of_ble_eq_true rfl)
  rw [lg_entry_eq]
  generalize (lg_sl ([.ref h]) ++ List.replicate (3 - (lg_sl ([.ref h])).length) Slot.unset).toArray = ls at hl ⊢
  have hl : lv_has ls 3 [(0, .ref h)] := hl
  refine lv_aload_n hx hb dX2_key_0 rfl (lv_at hl 0 rfl) ?_
  refine va_get (D := (dC, dI)) (ci := 2) (v := .int (nI tn)) (C := RX2) (T := TX2) (N := 14) hx hb hts (by decide +kernel) hown hK hP 0 rfl rfl 6 (by decide) (hts (.fieldLink RX2 118 "KeySumsModel" "size" "I") (by decide +kernel)) (fun _ h9 => h9) rfl dX2_key_1 ?_
  refine lv_istore_n (lv' := [(1, .int (nI tn)), (0, .ref h)]) hx hb dX2_key_4 rfl hl (by decide) rfl (fun ls hl => ?_)
  refine lv_aload_n hx hb dX2_key_5 rfl (lv_at hl 1 rfl) ?_
  refine lv_iconst (v := 0) hx hb dX2_key_6 (by decide) ?_
  refine kz_top (y := nI 0) nI_0.symm ?_
  refine va_put (D := (dC, dI)) (ci := 2) (v := .int (nI 0)) (ty := .int) (C := RX2) (T := TX2) (N := 14) hx hb hts (by decide +kernel) tyX2 tyX2_ok nmX2 hown hK hP hD hS 0 rfl rfl 6 (by decide) (hts (.fieldLink RX2 118 "KeySumsModel" "size" "I") (by decide +kernel)) (fun _ h9 => h9) rfl (by decide +kernel) rfl rfl (Nat.le_of_ble_eq_true rfl) dX2_key_7 (fun H locs hP hD hS => ?_)
  have hP : va_P (dC, dI) vwCl [(h, .inr (2, [.ref ac, .ref au, .ref ab, .ref ae, .ref am, .ref ap, .int (nI 0), .ref ak, .ref al, .ref af, .ref an, .int mm, .ref ar, .int sm])), (ap, .inl (cJ, 2000, .inl ft)), (ak, .inl (cJ, 16, .inl fk))] H := hP
  have hD : va_D A [(h, .inr (2, [.ref ac, .ref au, .ref ab, .ref ae, .ref am, .ref ap, .int (nI 0), .ref ak, .ref al, .ref af, .ref an, .int mm, .ref ar, .int sm])), (ap, .inl (cJ, 2000, .inl ft)), (ak, .inl (cJ, 16, .inl fk))] := hD
  refine lv_iload_n hx hb dX2_key_10 rfl (lv_at hl 0 rfl) ?_
  refine lv_bipush (v := 16) hx hb dX2_key_11 (by decide) ?_
  refine lv_icmp_le (tgt := 18) hx hb dX2_key_13 (by decide) (fun hc => ?_) (fun hc => ?_)
  · skip
    exact absurd hc (nI_ge (a := 16) (b := tn) h1 (by omega))
  · skip
    refine lv_iconst (v := (-1)) hx hb dX2_key_16 (by decide) ?_
    have hP9 := hP.sub (ws' := [(h, .inr (2, [.ref ac, .ref au, .ref ab, .ref ae, .ref am, .ref ap, .int (nI 0), .ref ak, .ref al, .ref af, .ref an, .int mm, .ref ar, .int sm])), (ap, .inl (cJ, 2000, .inl ft)), (ak, .inl (cJ, 16, .inl fk))]) [0, 1, 2] rfl
    have hD9 := hD.sub (ws' := [(h, .inr (2, [.ref ac, .ref au, .ref ab, .ref ae, .ref am, .ref ap, .int (nI 0), .ref ak, .ref al, .ref af, .ref an, .int mm, .ref ar, .int sm])), (ap, .inl (cJ, 2000, .inl ft)), (ak, .inl (cJ, 16, .inl fk))]) [0, 1, 2] (by decide) rfl
    have hK9 := hK.sub (tys' := [(cJ, .int)]) [0] rfl
    exact W.iret (v := (-1)) hx hb hr (fun t ht hW => ⟨⟨(-1), (), rfl, rfl, by rw [ht]; exact hP9, va_K.moved hW.alike hK9, hD9⟩, hS.F ht⟩) hS.2.2 dX2_key_17

set_option maxHeartbeats 4000000 in
set_option maxRecDepth 100000 in
/-- key -/
theorem r_key_ok (l : Launch) (dC : Nat → ClassId) (dI : Nat → Nat → Nat) (sz : Nat) (h ac au ab ae am ap ak al af an ar : Nat) (cJ : ClassId) (mm sm : Int32) (tn : Nat) (ft fk : Nat → Int32) (h1 : tn ≤ 16) : Met l yX2_key wsX2_key ({ frames := 0, cells := 0, slots := 0, locals := 0 }) (va_Pc [.ref h] (fun U => U.heap.size = sz ∧ va_P (dC, dI) vwCl [(h, .inr (2, [.ref ac, .ref au, .ref ab, .ref ae, .ref am, .ref ap, .int (nI tn), .ref ak, .ref al, .ref af, .ref an, .int mm, .ref ar, .int sm])), (ap, .inl (cJ, 2000, .inl ft)), (ak, .inl (cJ, 16, .inl fk))] U.heap ∧ va_K (dC, dI) vwCl [(cJ, .int)] U ∧ va_D (fun _ => True) [(h, .inr (2, [.ref ac, .ref au, .ref ab, .ref ae, .ref am, .ref ap, .int (nI tn), .ref ak, .ref al, .ref af, .ref an, .int mm, .ref ar, .int sm])), (ap, .inl (cJ, 2000, .inl ft)), (ak, .inl (cJ, 16, .inl fk))])) (va_Qi (fun (r : Int32) (u : Nat → Int32) => r = nI tn ∧ ∀ j, j < 16 → u j = if j < tn then ft j else 0) (fun (u : Nat → Int32) t => kz_B dC dI [(cJ, .int)] (va_A [(h, .inr (2, [.ref ac, .ref au, .ref ab, .ref ae, .ref am, .ref ap, .int (nI tn), .ref ak, .ref al, .ref af, .ref an, .int mm, .ref ar, .int sm])), (ap, .inl (cJ, 2000, .inl ft)), (ak, .inl (cJ, 16, .inl fk))] sz) [(h, .inr (2, [.ref ac, .ref au, .ref ab, .ref ae, .ref am, .ref ap, .int (nI 0), .ref ak, .ref al, .ref af, .ref an, .int mm, .ref ar, .int sm])), (ap, .inl (cJ, 2000, .inl ft)), (ak, .inl (cJ, 16, .inl u))] t) (va_A [(h, .inr (2, [.ref ac, .ref au, .ref ab, .ref ae, .ref am, .ref ap, .int (nI tn), .ref ak, .ref al, .ref af, .ref an, .int mm, .ref ar, .int sm])), (ap, .inl (cJ, 2000, .inl ft)), (ak, .inl (cJ, 16, .inl fk))] sz)) 0 0 (va_A [(h, .inr (2, [.ref ac, .ref au, .ref ab, .ref ae, .ref am, .ref ap, .int (nI tn), .ref ak, .ref al, .ref af, .ref an, .int mm, .ref ar, .int sm])), (ap, .inl (cJ, 2000, .inl ft)), (ak, .inl (cJ, 16, .inl fk))] sz) := by
  refine Met.ofW (cc := cX2_key) (maxL := 3) (ret := (some .int)) (by decide) rfl ?_
  intro p e s m args below meth c s₁ B hml hv
  obtain ⟨rfl, hsz, hP, hK, hD0⟩ := hv
  have hx := B.exec
  have hb := B.bytes
  have hr := B.returns
  have hts := atoms_spec (ws := wsX2_key) B.pre
  have hown : s.vm.findClass RX2 = some m.cls := findClass_of_methodNamed B.named
  have hlocks := B.notSynchronized
  subst hsz
  have hD := hD0.self (sz := s.heap.size)
  generalize hAe : va_A [(h, .inr (2, [.ref ac, .ref au, .ref ab, .ref ae, .ref am, .ref ap, .int (nI tn), .ref ak, .ref al, .ref af, .ref an, .int mm, .ref ar, .int sm])), (ap, .inl (cJ, 2000, .inl ft)), (ak, .inl (cJ, 16, .inl fk))] s.heap.size = A at hD  ⊢
  have hA : ∀ q : Nat, s.heap.size ≤ q → A q := fun q h => by rw [← hAe]; exact Or.inr h
  have hS : va_S A s.heap s.heap [] := va_S.rf
  have hP : va_P (dC, dI) vwCl [(h, .inr (2, [.ref ac, .ref au, .ref ab, .ref ae, .ref am, .ref ap, .int (nI tn), .ref ak, .ref al, .ref af, .ref an, .int mm, .ref ar, .int sm])), (ap, .inl (cJ, 2000, .inl ft)), (ak, .inl (cJ, 16, .inl fk))] s.heap := hP
  have hl := lv_entry ([.ref h]) (n := 3) (Nat.le_of_ble_eq_true rfl)
  rw [lg_entry_eq]
  generalize (lg_sl ([.ref h]) ++ List.replicate (3 - (lg_sl ([.ref h])).length) Slot.unset).toArray = ls at hl ⊢
  have hl : lv_has ls 3 [(0, .ref h)] := hl
  refine lv_aload_n hx hb dX2_key_0 rfl (lv_at hl 0 rfl) ?_
  refine va_get (D := (dC, dI)) (ci := 2) (v := .int (nI tn)) (C := RX2) (T := TX2) (N := 14) hx hb hts (by decide +kernel) hown hK hP 0 rfl rfl 6 (by decide) (hts (.fieldLink RX2 118 "KeySumsModel" "size" "I") (by decide +kernel)) (fun _ h9 => h9) rfl dX2_key_1 ?_
  refine lv_istore_n (lv' := [(1, .int (nI tn)), (0, .ref h)]) hx hb dX2_key_4 rfl hl (by decide) rfl (fun ls hl => ?_)
  refine lv_aload_n hx hb dX2_key_5 rfl (lv_at hl 1 rfl) ?_
  refine lv_iconst (v := 0) hx hb dX2_key_6 (by decide) ?_
  refine kz_top (y := nI 0) nI_0.symm ?_
  refine va_put (D := (dC, dI)) (ci := 2) (v := .int (nI 0)) (ty := .int) (C := RX2) (T := TX2) (N := 14) hx hb hts (by decide +kernel) tyX2 tyX2_ok nmX2 hown hK hP hD hS 0 rfl rfl 6 (by decide) (hts (.fieldLink RX2 118 "KeySumsModel" "size" "I") (by decide +kernel)) (fun _ h9 => h9) rfl (by decide +kernel) rfl rfl (Nat.le_of_ble_eq_true rfl) dX2_key_7 (fun H locs hP hD hS => ?_)
  have hP : va_P (dC, dI) vwCl [(h, .inr (2, [.ref ac, .ref au, .ref ab, .ref ae, .ref am, .ref ap, .int (nI 0), .ref ak, .ref al, .ref af, .ref an, .int mm, .ref ar, .int sm])), (ap, .inl (cJ, 2000, .inl ft)), (ak, .inl (cJ, 16, .inl fk))] H := hP
  have hD : va_D A [(h, .inr (2, [.ref ac, .ref au, .ref ab, .ref ae, .ref am, .ref ap, .int (nI 0), .ref ak, .ref al, .ref af, .ref an, .int mm, .ref ar, .int sm])), (ap, .inl (cJ, 2000, .inl ft)), (ak, .inl (cJ, 16, .inl fk))] := hD
  refine lv_iload_n hx hb dX2_key_10 rfl (lv_at hl 0 rfl) ?_
  refine lv_bipush (v := 16) hx hb dX2_key_11 (by decide) ?_
  refine lv_icmp_le (tgt := 18) hx hb dX2_key_13 (by decide) (fun hc => ?_) (fun hc => ?_)
  · skip
    refine lv_iconst (v := 0) hx hb dX2_key_18 (by decide) ?_
    refine kz_top (y := nI 0) nI_0.symm ?_
    refine lv_istore_n (lv' := [(2, .int (nI 0)), (1, .int (nI tn)), (0, .ref h)]) hx hb dX2_key_19 rfl hl (by decide) rfl (fun ls hl => ?_)
    refine kz_loop (σ := Nat → Int32) (fun i x ls H locs => (∀ j, j < i → x j = if j < tn then ft j else 0) ∧ lv_has ls 3 [(2, .int (nI i)), (1, .int (nI tn)), (0, .ref h)] ∧ va_P (dC, dI) vwCl [(h, .inr (2, [.ref ac, .ref au, .ref ab, .ref ae, .ref am, .ref ap, .int (nI 0), .ref ak, .ref al, .ref af, .ref an, .int mm, .ref ar, .int sm])), (ap, .inl (cJ, 2000, .inl ft)), (ak, .inl (cJ, 16, .inl x))] H ∧ va_D A [(h, .inr (2, [.ref ac, .ref au, .ref ab, .ref ae, .ref am, .ref ap, .int (nI 0), .ref ak, .ref al, .ref af, .ref an, .int mm, .ref ar, .int sm])), (ap, .inl (cJ, 2000, .inl ft)), (ak, .inl (cJ, 16, .inl x))] ∧ va_S A s.heap H locs) 16 ?_ ?_ 0 fk ls _ _ (Nat.zero_le _) ⟨fun j hj => absurd hj (Nat.not_lt_zero j), lv_sub hl [0, 1, 2] rfl, hP, hD, hS⟩
    · skip
      intro i x ls H locs hlt hI ih
      obtain ⟨hv, hl, hP, hD, hS⟩ := hI
      refine lv_iload_n hx hb dX2_key_20 rfl (lv_at hl 0 rfl) ?_
      refine lv_bipush (v := 16) hx hb dX2_key_21 (by decide) ?_
      refine lv_icmp_ge (tgt := 53) hx hb dX2_key_23 (by decide) (fun hc => ?_) (fun hc => ?_)
      · skip
        exact absurd hc (nI_ge (a := i) (b := 16) hlt (by decide))
      · skip
        refine lv_aload_n hx hb dX2_key_26 rfl (lv_at hl 2 rfl) ?_
        refine va_get (D := (dC, dI)) (ci := 2) (v := .ref ak) (C := RX2) (T := TX2) (N := 14) hx hb hts (by decide +kernel) hown hK hP 0 rfl rfl 7 (by decide) (hts (.fieldLink RX2 96 "KeySumsModel" "key" "[I") (by decide +kernel)) (fun _ h9 => h9) rfl dX2_key_27 ?_
        refine lv_iload_n hx hb dX2_key_30 rfl (lv_at hl 0 rfl) ?_
        refine lv_iload_n hx hb dX2_key_31 rfl (lv_at hl 0 rfl) ?_
        refine lv_iload_n hx hb dX2_key_32 rfl (lv_at hl 1 rfl) ?_
        refine lv_icmp_ge (tgt := 45) hx hb dX2_key_33 (by decide) (fun hc => ?_) (fun hc => ?_)
        · skip
          have hge : ¬ i < tn := fun q => absurd hc (nI_ge q (by omega))
          refine lv_iconst (v := 0) hx hb dX2_key_45 (by decide) ?_
          refine kz_iast (j := i) hx hb hK hP hD hS 2 0 rfl rfl (hlt) (by decide) dX2_key_46 (fun H locs hP hD hS => ?_)
          have hP : va_P (dC, dI) vwCl [(h, .inr (2, [.ref ac, .ref au, .ref ab, .ref ae, .ref am, .ref ap, .int (nI 0), .ref ak, .ref al, .ref af, .ref an, .int mm, .ref ar, .int sm])), (ap, .inl (cJ, 2000, .inl ft)), (ak, .inl (cJ, 16, .inl (upd x i 0)))] H := hP
          have hD : va_D A [(h, .inr (2, [.ref ac, .ref au, .ref ab, .ref ae, .ref am, .ref ap, .int (nI 0), .ref ak, .ref al, .ref af, .ref an, .int mm, .ref ar, .int sm])), (ap, .inl (cJ, 2000, .inl ft)), (ak, .inl (cJ, 16, .inl (upd x i 0)))] := hD
          refine lv_iinc (v := nI (i + 1)) (lv' := [(2, .int (nI (i + 1))), (1, .int (nI tn)), (0, .ref h)]) hx hb dX2_key_47 hl (k := 0) rfl (nI_1 i) (by decide) rfl (fun ls hl => ?_)
          refine lv_goto (tgt := 20) hx hb dX2_key_50 (by decide) ?_
          refine ih _ ls H locs ⟨?_, lv_sub hl [0, 1, 2] rfl, hP, hD, hS⟩
          intro j hj
          by_cases q : j = i
          · subst q; rw [pk_us, if_neg hge]
          · rw [pk_un q]; exact hv j (by omega)
        · skip
          have hlt2 : i < tn := by
            rcases Nat.lt_or_ge i tn with q | q
            · exact q
            · exact absurd (nI_le q (by omega)) hc
          refine lv_aload_n hx hb dX2_key_36 rfl (lv_at hl 2 rfl) ?_
          refine va_get (D := (dC, dI)) (ci := 2) (v := .ref ap) (C := RX2) (T := TX2) (N := 14) hx hb hts (by decide +kernel) hown hK hP 0 rfl rfl 5 (by decide) (hts (.fieldLink RX2 93 "KeySumsModel" "tape" "[I") (by decide +kernel)) (fun _ h9 => h9) rfl dX2_key_37 ?_
          refine lv_iload_n hx hb dX2_key_40 rfl (lv_at hl 0 rfl) ?_
          refine kz_iald (j := i) hx hb hK hP 1 0 rfl rfl (show i < 2000 by omega) (by decide) dX2_key_41 ?_
          refine lv_goto (tgt := 46) hx hb dX2_key_42 (by decide) ?_
          refine kz_iast (j := i) hx hb hK hP hD hS 2 0 rfl rfl (hlt) (by decide) dX2_key_46 (fun H locs hP hD hS => ?_)
          have hP : va_P (dC, dI) vwCl [(h, .inr (2, [.ref ac, .ref au, .ref ab, .ref ae, .ref am, .ref ap, .int (nI 0), .ref ak, .ref al, .ref af, .ref an, .int mm, .ref ar, .int sm])), (ap, .inl (cJ, 2000, .inl ft)), (ak, .inl (cJ, 16, .inl (upd x i (ft i))))] H := hP
          have hD : va_D A [(h, .inr (2, [.ref ac, .ref au, .ref ab, .ref ae, .ref am, .ref ap, .int (nI 0), .ref ak, .ref al, .ref af, .ref an, .int mm, .ref ar, .int sm])), (ap, .inl (cJ, 2000, .inl ft)), (ak, .inl (cJ, 16, .inl (upd x i (ft i))))] := hD
          refine lv_iinc (v := nI (i + 1)) (lv' := [(2, .int (nI (i + 1))), (1, .int (nI tn)), (0, .ref h)]) hx hb dX2_key_47 hl (k := 0) rfl (nI_1 i) (by decide) rfl (fun ls hl => ?_)
          refine lv_goto (tgt := 20) hx hb dX2_key_50 (by decide) ?_
          refine ih _ ls H locs ⟨?_, lv_sub hl [0, 1, 2] rfl, hP, hD, hS⟩
          intro j hj
          by_cases q : j = i
          · subst q; rw [pk_us, if_pos hlt2]
          · rw [pk_un q]; exact hv j (by omega)
    · skip
      intro x ls H locs hI
      obtain ⟨hv, hl, hP, hD, hS⟩ := hI
      refine lv_iload_n hx hb dX2_key_20 rfl (lv_at hl 0 rfl) ?_
      refine lv_bipush (v := 16) hx hb dX2_key_21 (by decide) ?_
      refine lv_icmp_ge (tgt := 53) hx hb dX2_key_23 (by decide) (fun hc => ?_) (fun hc => ?_)
      · skip
        refine lv_iload_n hx hb dX2_key_53 rfl (lv_at hl 1 rfl) ?_
        have hP9 := hP.sub (ws' := [(h, .inr (2, [.ref ac, .ref au, .ref ab, .ref ae, .ref am, .ref ap, .int (nI 0), .ref ak, .ref al, .ref af, .ref an, .int mm, .ref ar, .int sm])), (ap, .inl (cJ, 2000, .inl ft)), (ak, .inl (cJ, 16, .inl x))]) [0, 1, 2] rfl
        have hD9 := hD.sub (ws' := [(h, .inr (2, [.ref ac, .ref au, .ref ab, .ref ae, .ref am, .ref ap, .int (nI 0), .ref ak, .ref al, .ref af, .ref an, .int mm, .ref ar, .int sm])), (ap, .inl (cJ, 2000, .inl ft)), (ak, .inl (cJ, 16, .inl x))]) [0, 1, 2] (by decide) rfl
        have hK9 := hK.sub (tys' := [(cJ, .int)]) [0] rfl
        exact W.iret (v := (nI tn)) hx hb hr (fun t ht hW => ⟨⟨(nI tn), x, rfl, ⟨rfl, hv⟩, by rw [ht]; exact hP9, va_K.moved hW.alike hK9, hD9⟩, hS.F ht⟩) hS.2.2 dX2_key_54
      · skip
        exact absurd (nI_le (a := 16) (b := 16) (Nat.le_refl _) (by decide)) hc
  · skip
    exact absurd (nI_le (a := tn) (b := 16) h1 (by decide)) hc

set_option maxHeartbeats 4000000 in
set_option maxRecDepth 100000 in
/-- sumAt, none -/
theorem r_sumAt_no (l : Launch) (dC : Nat → ClassId) (dI : Nat → Nat → Nat) (sz : Nat) (h ac au ab ae am ap ak al af an ar : Nat) (cJ : ClassId) (sz0 mm sm : Int32) (rs : Nat → Int32) (x : Int32) (h1 : sm = 0 ∨ x < 0 ∨ 16 ≤ x) : Met l yX2_sumAt wsX2_sumAt ({ frames := 0, cells := 0, slots := 0, locals := 0 }) (va_Pc [.ref h, .int x] (fun U => U.heap.size = sz ∧ va_P (dC, dI) vwCl [(h, .inr (2, [.ref ac, .ref au, .ref ab, .ref ae, .ref am, .ref ap, .int sz0, .ref ak, .ref al, .ref af, .ref an, .int mm, .ref ar, .int sm])), (ar, .inl (cJ, 16, .inl rs))] U.heap ∧ va_K (dC, dI) vwCl [(cJ, .int)] U ∧ va_D (fun _ => True) [(h, .inr (2, [.ref ac, .ref au, .ref ab, .ref ae, .ref am, .ref ap, .int sz0, .ref ak, .ref al, .ref af, .ref an, .int mm, .ref ar, .int sm])), (ar, .inl (cJ, 16, .inl rs))])) (vp_Si (fun r => r = -1)) 0 0 (fun _ => False) := by
  refine Met.ofW (cc := cX2_sumAt) (maxL := 2) (ret := (some .int)) (by decide) rfl ?_
  intro p e s m args below meth c s₁ B hml hv
  obtain ⟨rfl, hsz, hP, hK, hD0⟩ := hv
  have hx := B.exec
  have hb := B.bytes
  have hr := B.returns
  have hts := atoms_spec (ws := wsX2_sumAt) B.pre
  have hown : s.vm.findClass RX2 = some m.cls := findClass_of_methodNamed B.named
  have hlocks := B.notSynchronized
  subst hsz
  have hD := hD0.self (sz := s.heap.size)
  generalize hAe : va_A [(h, .inr (2, [.ref ac, .ref au, .ref ab, .ref ae, .ref am, .ref ap, .int sz0, .ref ak, .ref al, .ref af, .ref an, .int mm, .ref ar, .int sm])), (ar, .inl (cJ, 16, .inl rs))] s.heap.size = A at hD  ⊢
  have hA : ∀ q : Nat, s.heap.size ≤ q → A q := fun q h => by rw [← hAe]; exact Or.inr h
  have hS : va_S A s.heap s.heap [] := va_S.rf
  have hP : va_P (dC, dI) vwCl [(h, .inr (2, [.ref ac, .ref au, .ref ab, .ref ae, .ref am, .ref ap, .int sz0, .ref ak, .ref al, .ref af, .ref an, .int mm, .ref ar, .int sm])), (ar, .inl (cJ, 16, .inl rs))] s.heap := hP
  have hl := lv_entry ([.ref h, .int x]) (n := 2) (Nat.le_of_ble_eq_true rfl)
  rw [lg_entry_eq]
  generalize (lg_sl ([.ref h, .int x]) ++ List.replicate (2 - (lg_sl ([.ref h, .int x])).length) Slot.unset).toArray = ls at hl ⊢
  have hl : lv_has ls 2 [(0, .ref h), (1, .int x)] := hl
  refine lv_aload_n hx hb dX2_sumAt_0 rfl (lv_at hl 0 rfl) ?_
  refine va_get (D := (dC, dI)) (ci := 2) (v := .int sm) (C := RX2) (T := TX2) (N := 14) hx hb hts (by decide +kernel) hown hK hP 0 rfl rfl 13 (by decide) (hts (.fieldLink RX2 140 "KeySumsModel" "isSummed" "Z") (by decide +kernel)) (fun _ h9 => h9) rfl dX2_sumAt_1 ?_
  refine lv_if_eq (tgt := 26) hx hb dX2_sumAt_4 (by decide) (fun hc => ?_) (fun hc => ?_)
  · skip
    refine lv_iconst (v := (-1)) hx hb dX2_sumAt_26 (by decide) ?_
    exact W.iret (v := (-1)) hx hb hr (fun t ht hW => ⟨(-1), rfl, rfl, ht⟩) (fun q h => by cases h) dX2_sumAt_27
  · skip
    have h1 := h1.resolve_left hc
    refine lv_iload_n hx hb dX2_sumAt_7 rfl (lv_at hl 1 rfl) ?_
    refine lv_if_lt (tgt := 26) hx hb dX2_sumAt_8 (by decide) (fun hc => ?_) (fun hc => ?_)
    · skip
      refine lv_iconst (v := (-1)) hx hb dX2_sumAt_26 (by decide) ?_
      exact W.iret (v := (-1)) hx hb hr (fun t ht hW => ⟨(-1), rfl, rfl, ht⟩) (fun q h => by cases h) dX2_sumAt_27
    · skip
      have h1 := h1.resolve_left hc
      refine lv_iload_n hx hb dX2_sumAt_11 rfl (lv_at hl 1 rfl) ?_
      refine lv_bipush (v := 16) hx hb dX2_sumAt_12 (by decide) ?_
      refine lv_icmp_ge (tgt := 26) hx hb dX2_sumAt_14 (by decide) (fun hc => ?_) (fun hc => ?_)
      · skip
        refine lv_iconst (v := (-1)) hx hb dX2_sumAt_26 (by decide) ?_
        exact W.iret (v := (-1)) hx hb hr (fun t ht hW => ⟨(-1), rfl, rfl, ht⟩) (fun q h => by cases h) dX2_sumAt_27
      · skip
        exact absurd h1 hc

set_option maxHeartbeats 4000000 in
set_option maxRecDepth 100000 in
/-- sumAt -/
theorem r_sumAt_ok (l : Launch) (dC : Nat → ClassId) (dI : Nat → Nat → Nat) (sz : Nat) (h ac au ab ae am ap ak al af an ar : Nat) (cJ : ClassId) (sz0 mm : Int32) (rs : Nat → Int32) (i : Nat) (h1 : i < 16) : Met l yX2_sumAt wsX2_sumAt ({ frames := 0, cells := 0, slots := 0, locals := 0 }) (va_Pc [.ref h, .int (nI i)] (fun U => U.heap.size = sz ∧ va_P (dC, dI) vwCl [(h, .inr (2, [.ref ac, .ref au, .ref ab, .ref ae, .ref am, .ref ap, .int sz0, .ref ak, .ref al, .ref af, .ref an, .int mm, .ref ar, .int 1])), (ar, .inl (cJ, 16, .inl rs))] U.heap ∧ va_K (dC, dI) vwCl [(cJ, .int)] U ∧ va_D (fun _ => True) [(h, .inr (2, [.ref ac, .ref au, .ref ab, .ref ae, .ref am, .ref ap, .int sz0, .ref ak, .ref al, .ref af, .ref an, .int mm, .ref ar, .int 1])), (ar, .inl (cJ, 16, .inl rs))])) (vp_Si (fun r => r = rs i)) 0 0 (fun _ => False) := by
  refine Met.ofW (cc := cX2_sumAt) (maxL := 2) (ret := (some .int)) (by decide) rfl ?_
  intro p e s m args below meth c s₁ B hml hv
  obtain ⟨rfl, hsz, hP, hK, hD0⟩ := hv
  have hx := B.exec
  have hb := B.bytes
  have hr := B.returns
  have hts := atoms_spec (ws := wsX2_sumAt) B.pre
  have hown : s.vm.findClass RX2 = some m.cls := findClass_of_methodNamed B.named
  have hlocks := B.notSynchronized
  subst hsz
  have hD := hD0.self (sz := s.heap.size)
  generalize hAe : va_A [(h, .inr (2, [.ref ac, .ref au, .ref ab, .ref ae, .ref am, .ref ap, .int sz0, .ref ak, .ref al, .ref af, .ref an, .int mm, .ref ar, .int 1])), (ar, .inl (cJ, 16, .inl rs))] s.heap.size = A at hD  ⊢
  have hA : ∀ q : Nat, s.heap.size ≤ q → A q := fun q h => by rw [← hAe]; exact Or.inr h
  have hS : va_S A s.heap s.heap [] := va_S.rf
  have hP : va_P (dC, dI) vwCl [(h, .inr (2, [.ref ac, .ref au, .ref ab, .ref ae, .ref am, .ref ap, .int sz0, .ref ak, .ref al, .ref af, .ref an, .int mm, .ref ar, .int 1])), (ar, .inl (cJ, 16, .inl rs))] s.heap := hP
  have hl := lv_entry ([.ref h, .int (nI i)]) (n := 2) (Nat.le_of_ble_eq_true rfl)
  rw [lg_entry_eq]
  generalize (lg_sl ([.ref h, .int (nI i)]) ++ List.replicate (2 - (lg_sl ([.ref h, .int (nI i)])).length) Slot.unset).toArray = ls at hl ⊢
  have hl : lv_has ls 2 [(0, .ref h), (1, .int (nI i))] := hl
  refine lv_aload_n hx hb dX2_sumAt_0 rfl (lv_at hl 0 rfl) ?_
  refine va_get (D := (dC, dI)) (ci := 2) (v := .int 1) (C := RX2) (T := TX2) (N := 14) hx hb hts (by decide +kernel) hown hK hP 0 rfl rfl 13 (by decide) (hts (.fieldLink RX2 140 "KeySumsModel" "isSummed" "Z") (by decide +kernel)) (fun _ h9 => h9) rfl dX2_sumAt_1 ?_
  refine lv_if_eq (tgt := 26) hx hb dX2_sumAt_4 (by decide) (fun hc => ?_) (fun hc => ?_)
  · skip
    exact absurd hc (by decide)
  · skip
    refine lv_iload_n hx hb dX2_sumAt_7 rfl (lv_at hl 1 rfl) ?_
    refine lv_if_lt (tgt := 26) hx hb dX2_sumAt_8 (by decide) (fun hc => ?_) (fun hc => ?_)
    · skip
      exact absurd hc (nI_pos (n := i) (by omega))
    · skip
      refine lv_iload_n hx hb dX2_sumAt_11 rfl (lv_at hl 1 rfl) ?_
      refine lv_bipush (v := 16) hx hb dX2_sumAt_12 (by decide) ?_
      refine lv_icmp_ge (tgt := 26) hx hb dX2_sumAt_14 (by decide) (fun hc => ?_) (fun hc => ?_)
      · skip
        exact absurd hc (nI_ge (a := i) (b := 16) h1 (by decide))
      · skip
        refine lv_aload_n hx hb dX2_sumAt_17 rfl (lv_at hl 0 rfl) ?_
        refine va_get (D := (dC, dI)) (ci := 2) (v := .ref ar) (C := RX2) (T := TX2) (N := 14) hx hb hts (by decide +kernel) hown hK hP 0 rfl rfl 12 (by decide) (hts (.fieldLink RX2 108 "KeySumsModel" "result" "[I") (by decide +kernel)) (fun _ h9 => h9) rfl dX2_sumAt_18 ?_
        refine lv_iload_n hx hb dX2_sumAt_21 rfl (lv_at hl 1 rfl) ?_
        refine kz_iald (j := i) hx hb hK hP 1 0 rfl rfl (h1) (by decide) dX2_sumAt_22 ?_
        refine lv_goto (tgt := 27) hx hb dX2_sumAt_23 (by decide) ?_
        exact W.iret (v := (rs i)) hx hb hr (fun t ht hW => ⟨(rs i), rfl, rfl, ht⟩) (fun q h => by cases h) dX2_sumAt_27
