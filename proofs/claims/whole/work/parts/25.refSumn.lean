set_option maxHeartbeats 4000000 in
set_option maxRecDepth 100000 in
/-- sum -/
theorem r_sum_n (l : Launch) (dC : Nat → ClassId) (dI : Nat → Nat → Nat) (sz : Nat) (h ac au ab ae am ap ak al af an ar : Nat) (cJ : ClassId) (sz0 sm : Int32) (n : Nat) (bl fr fn fk rs f : Nat → Int32) (y : Int32) (h2 : n + 16 < 2 ^ 28) (hi : rf_inv f n bl fr) (hz : y = 0) : Met l yX2_sum wsX2_sum ({ frames := 3, cells := 0, slots := 0, locals := 90 }) (va_Pc [.ref h, .int y] (fun U => U.heap.size = sz ∧ va_P (dC, dI) vwCl [(h, .inr (2, [.ref ac, .ref au, .ref ab, .ref ae, .ref am, .ref ap, .int sz0, .ref ak, .ref al, .ref af, .ref an, .int (nI n), .ref ar, .int sm])), (ac, .inl (cJ, 64, .inl ks_k)), (au, .inl (cJ, 16, .inl ks_tt)), (ae, .inl (cJ, 4, .inl ks_tmI)), (am, .inl (cJ, 4, .inl ks_moI)), (al, .inl (cJ, 64, .inl bl)), (af, .inl (cJ, 4, .inl fr)), (an, .inl (cJ, 4, .inl fn)), (ak, .inl (cJ, 16, .inl fk)), (ar, .inl (cJ, 16, .inl rs)), (ab, .inl (cJ, 4, .inl ks_begI))] U.heap ∧ va_K (dC, dI) vwCl [(cJ, .int)] U ∧ va_D (fun _ => True) [(h, .inr (2, [.ref ac, .ref au, .ref ab, .ref ae, .ref am, .ref ap, .int sz0, .ref ak, .ref al, .ref af, .ref an, .int (nI n), .ref ar, .int sm])), (ac, .inl (cJ, 64, .inl ks_k)), (au, .inl (cJ, 16, .inl ks_tt)), (ae, .inl (cJ, 4, .inl ks_tmI)), (am, .inl (cJ, 4, .inl ks_moI)), (al, .inl (cJ, 64, .inl bl)), (af, .inl (cJ, 4, .inl fr)), (an, .inl (cJ, 4, .inl fn)), (ak, .inl (cJ, 16, .inl fk)), (ar, .inl (cJ, 16, .inl rs)), (ab, .inl (cJ, 4, .inl ks_begI))])) (va_Qi (fun (r : Int32) (u : (Nat → Int32) × (Nat → Int32) × (Nat → Int32) × (Nat → Int32)) => r = nI n ∧ (∀ j, j < 4 → u.2.1 j = ks_begI j) ∧ ∃ z : Nat → Int32, ks_4 z = ks_sum f n ∧ ∀ j, j < 16 → u.2.2.2 j = (z (j / 4) >>> (nI (8 * (j % 4)) &&& 31)) &&& 255) (fun (u : (Nat → Int32) × (Nat → Int32) × (Nat → Int32) × (Nat → Int32)) t => kz_B dC dI [(cJ, .int)] (va_A [(h, .inr (2, [.ref ac, .ref au, .ref ab, .ref ae, .ref am, .ref ap, .int sz0, .ref ak, .ref al, .ref af, .ref an, .int (nI n), .ref ar, .int sm])), (ac, .inl (cJ, 64, .inl ks_k)), (au, .inl (cJ, 16, .inl ks_tt)), (ae, .inl (cJ, 4, .inl ks_tmI)), (am, .inl (cJ, 4, .inl ks_moI)), (al, .inl (cJ, 64, .inl bl)), (af, .inl (cJ, 4, .inl fr)), (an, .inl (cJ, 4, .inl fn)), (ak, .inl (cJ, 16, .inl fk)), (ar, .inl (cJ, 16, .inl rs)), (ab, .inl (cJ, 4, .inl ks_begI))] sz) [(h, .inr (2, [.ref ac, .ref au, .ref ab, .ref ae, .ref am, .ref ap, .int sz0, .ref ak, .ref al, .ref af, .ref an, .int (nI 0), .ref ar, .int 1])), (ac, .inl (cJ, 64, .inl ks_k)), (au, .inl (cJ, 16, .inl ks_tt)), (ae, .inl (cJ, 4, .inl ks_tmI)), (am, .inl (cJ, 4, .inl ks_moI)), (al, .inl (cJ, 64, .inl u.1)), (af, .inl (cJ, 4, .inl u.2.1)), (an, .inl (cJ, 4, .inl u.2.2.1)), (ak, .inl (cJ, 16, .inl fk)), (ar, .inl (cJ, 16, .inl u.2.2.2)), (ab, .inl (cJ, 4, .inl ks_begI))] t) (va_A [(h, .inr (2, [.ref ac, .ref au, .ref ab, .ref ae, .ref am, .ref ap, .int sz0, .ref ak, .ref al, .ref af, .ref an, .int (nI n), .ref ar, .int sm])), (ac, .inl (cJ, 64, .inl ks_k)), (au, .inl (cJ, 16, .inl ks_tt)), (ae, .inl (cJ, 4, .inl ks_tmI)), (am, .inl (cJ, 4, .inl ks_moI)), (al, .inl (cJ, 64, .inl bl)), (af, .inl (cJ, 4, .inl fr)), (an, .inl (cJ, 4, .inl fn)), (ak, .inl (cJ, 16, .inl fk)), (ar, .inl (cJ, 16, .inl rs)), (ab, .inl (cJ, 4, .inl ks_begI))] sz)) 0 0 (va_A [(h, .inr (2, [.ref ac, .ref au, .ref ab, .ref ae, .ref am, .ref ap, .int sz0, .ref ak, .ref al, .ref af, .ref an, .int (nI n), .ref ar, .int sm])), (ac, .inl (cJ, 64, .inl ks_k)), (au, .inl (cJ, 16, .inl ks_tt)), (ae, .inl (cJ, 4, .inl ks_tmI)), (am, .inl (cJ, 4, .inl ks_moI)), (al, .inl (cJ, 64, .inl bl)), (af, .inl (cJ, 4, .inl fr)), (an, .inl (cJ, 4, .inl fn)), (ak, .inl (cJ, 16, .inl fk)), (ar, .inl (cJ, 16, .inl rs)), (ab, .inl (cJ, 4, .inl ks_begI))] sz) := by
  refine Met.ofW (cc := cX2_sum) (maxL := 6) (ret := (some .int)) (by decide) rfl ?_
  intro p e s m args below meth c s₁ B hml hv
  obtain ⟨rfl, hsz, hP, hK, hD0⟩ := hv
  have hx := B.exec
  have hb := B.bytes
  have hr := B.returns
  have hts := atoms_spec (ws := wsX2_sum) B.pre
  have hown : s.vm.findClass RX2 = some m.cls := findClass_of_methodNamed B.named
  have hlocks := B.notSynchronized
  subst hsz
  have hD := hD0.self (sz := s.heap.size)
  generalize hAe : va_A [(h, .inr (2, [.ref ac, .ref au, .ref ab, .ref ae, .ref am, .ref ap, .int sz0, .ref ak, .ref al, .ref af, .ref an, .int (nI n), .ref ar, .int sm])), (ac, .inl (cJ, 64, .inl ks_k)), (au, .inl (cJ, 16, .inl ks_tt)), (ae, .inl (cJ, 4, .inl ks_tmI)), (am, .inl (cJ, 4, .inl ks_moI)), (al, .inl (cJ, 64, .inl bl)), (af, .inl (cJ, 4, .inl fr)), (an, .inl (cJ, 4, .inl fn)), (ak, .inl (cJ, 16, .inl fk)), (ar, .inl (cJ, 16, .inl rs)), (ab, .inl (cJ, 4, .inl ks_begI))] s.heap.size = A at hD  ⊢
  have hA : ∀ q : Nat, s.heap.size ≤ q → A q := fun q h => by rw [← hAe]; exact Or.inr h
  have hS : va_S A s.heap s.heap [] := va_S.rf
  have hP : va_P (dC, dI) vwCl [(h, .inr (2, [.ref ac, .ref au, .ref ab, .ref ae, .ref am, .ref ap, .int sz0, .ref ak, .ref al, .ref af, .ref an, .int (nI n), .ref ar, .int sm])), (ac, .inl (cJ, 64, .inl ks_k)), (au, .inl (cJ, 16, .inl ks_tt)), (ae, .inl (cJ, 4, .inl ks_tmI)), (am, .inl (cJ, 4, .inl ks_moI)), (al, .inl (cJ, 64, .inl bl)), (af, .inl (cJ, 4, .inl fr)), (an, .inl (cJ, 4, .inl fn)), (ak, .inl (cJ, 16, .inl fk)), (ar, .inl (cJ, 16, .inl rs)), (ab, .inl (cJ, 4, .inl ks_begI))] s.heap := hP
  have hl := lv_entry ([.ref h, .int y]) (n := 6) (Nat.le_of_ble_eq_true rfl)
  rw [lg_entry_eq]
  generalize (lg_sl ([.ref h, .int y]) ++ List.replicate (6 - (lg_sl ([.ref h, .int y])).length) Slot.unset).toArray = ls at hl ⊢
  have hl : lv_has ls 6 [(0, .ref h), (1, .int y)] := hl
  refine lv_aload_n hx hb dX2_sum_0 rfl (lv_at hl 0 rfl) ?_
  refine va_get (D := (dC, dI)) (ci := 2) (v := .int (nI n)) (C := RX2) (T := TX2) (N := 14) hx hb hts (by decide +kernel) hown hK hP 0 rfl rfl 11 (by decide) (hts (.fieldLink RX2 114 "KeySumsModel" "many" "I") (by decide +kernel)) (fun _ h9 => h9) rfl dX2_sum_1 ?_
  refine lv_istore_n (lv' := [(2, .int (nI n)), (0, .ref h), (1, .int y)]) hx hb dX2_sum_4 rfl hl (by decide) rfl (fun ls hl => ?_)
  refine lv_iconst (v := 0) hx hb dX2_sum_5 (by decide) ?_
  refine kz_top (y := nI 0) nI_0.symm ?_
  refine lv_istore_n (lv' := [(3, .int (nI 0)), (2, .int (nI n)), (0, .ref h), (1, .int y)]) hx hb dX2_sum_6 rfl hl (by decide) rfl (fun ls hl => ?_)
  refine lv_iload_n hx hb dX2_sum_7 rfl (lv_at hl 0 rfl) ?_
  refine lv_bipush (v := 16) hx hb dX2_sum_8 (by decide) ?_
  refine lv_icmp_ge (tgt := 33) hx hb dX2_sum_10 (by decide) (fun hc => ?_) (fun hc => ?_)
  · skip
    exact absurd hc (by decide)
  · skip
    refine lv_iload_n hx hb dX2_sum_13 rfl (lv_at hl 3 rfl) ?_
    refine lv_if_eq (tgt := 33) hx hb dX2_sum_14 (by decide) (fun hc => ?_) (fun hc => ?_)
    · skip
      obtain ⟨x, hxe⟩ : ∃ x : (Nat → Int32) × (Nat → Int32) × (Nat → Int32), x = (bl, fr, fn) := ⟨_, rfl⟩
      have hxi : rf_inv f n x.1 x.2.1 := by rw [hxe]; exact hi
      have hP : va_P (dC, dI) vwCl [(h, .inr (2, [.ref ac, .ref au, .ref ab, .ref ae, .ref am, .ref ap, .int sz0, .ref ak, .ref al, .ref af, .ref an, .int (nI n), .ref ar, .int sm])), (ac, .inl (cJ, 64, .inl ks_k)), (au, .inl (cJ, 16, .inl ks_tt)), (ae, .inl (cJ, 4, .inl ks_tmI)), (am, .inl (cJ, 4, .inl ks_moI)), (al, .inl (cJ, 64, .inl x.1)), (af, .inl (cJ, 4, .inl x.2.1)), (an, .inl (cJ, 4, .inl x.2.2)), (ak, .inl (cJ, 16, .inl fk)), (ar, .inl (cJ, 16, .inl rs)), (ab, .inl (cJ, 4, .inl ks_begI))] s.heap := by rw [hxe]; exact hP
      have hD : va_D A [(h, .inr (2, [.ref ac, .ref au, .ref ab, .ref ae, .ref am, .ref ap, .int sz0, .ref ak, .ref al, .ref af, .ref an, .int (nI n), .ref ar, .int sm])), (ac, .inl (cJ, 64, .inl ks_k)), (au, .inl (cJ, 16, .inl ks_tt)), (ae, .inl (cJ, 4, .inl ks_tmI)), (am, .inl (cJ, 4, .inl ks_moI)), (al, .inl (cJ, 64, .inl x.1)), (af, .inl (cJ, 4, .inl x.2.1)), (an, .inl (cJ, 4, .inl x.2.2)), (ak, .inl (cJ, 16, .inl fk)), (ar, .inl (cJ, 16, .inl rs)), (ab, .inl (cJ, 4, .inl ks_begI))] := by rw [hxe]; exact hD
      have hi : rf_inv (ks_pad f n) n x.1 x.2.1 := rf_inv_8 hxi (fun j hj => by rw [show ks_pad f n j = f j from if_pos hj])
      have he0 : n + 1 ≤ ks_end n := by unfold ks_end; omega
      have he1 : ks_end n ≤ n + 64 := by unfold ks_end; omega
      refine lv_ldc2 (v := (8)) hx hb hown (hts (.constantLong RX2 138 (8)) (by decide +kernel)) dX2_sum_33 ?_
      refine lv_aload_n hx hb dX2_sum_36 rfl (lv_at hl 2 rfl) ?_
      refine va_get (D := (dC, dI)) (ci := 2) (v := .int (nI n)) (C := RX2) (T := TX2) (N := 14) hx hb hts (by decide +kernel) hown hK hP 0 rfl rfl 11 (by decide) (hts (.fieldLink RX2 114 "KeySumsModel" "many" "I") (by decide +kernel)) (fun _ h9 => h9) rfl dX2_sum_37 ?_
      refine lv_i2l (v := lN n) hx hb dX2_sum_40 (nI_l (by omega)) ?_
      refine lv_lmul hx hb dX2_sum_41 ?_
      refine kz_topl (y := lN (8 * n)) (lN_mul 8 n) ?_
      refine lv_lstore_n (lv' := [(3, .long (lN (8 * n))), (2, .int (nI n)), (0, .ref h), (1, .int y)]) hx hb dX2_sum_42 rfl hl (by decide) rfl (fun ls hl => ?_)
      refine lv_aload_n hx hb dX2_sum_43 rfl (lv_at hl 2 rfl) ?_
      refine lv_sipush (v := 128) hx hb dX2_sum_44 (by decide) ?_
      have hPc := hP.sub (ws' := [(h, .inr (2, [.ref ac, .ref au, .ref ab, .ref ae, .ref am, .ref ap, .int sz0, .ref ak, .ref al, .ref af, .ref an, .int (nI n), .ref ar, .int sm])), (ac, .inl (cJ, 64, .inl ks_k)), (au, .inl (cJ, 16, .inl ks_tt)), (ae, .inl (cJ, 4, .inl ks_tmI)), (am, .inl (cJ, 4, .inl ks_moI)), (al, .inl (cJ, 64, .inl x.1)), (af, .inl (cJ, 4, .inl x.2.1)), (an, .inl (cJ, 4, .inl x.2.2))]) [0, 1, 2, 3, 4, 5, 6, 7] rfl
      have hDc := hD.sub (ws' := [(h, .inr (2, [.ref ac, .ref au, .ref ab, .ref ae, .ref am, .ref ap, .int sz0, .ref ak, .ref al, .ref af, .ref an, .int (nI n), .ref ar, .int sm])), (ac, .inl (cJ, 64, .inl ks_k)), (au, .inl (cJ, 16, .inl ks_tt)), (ae, .inl (cJ, 4, .inl ks_tmI)), (am, .inl (cJ, 4, .inl ks_moI)), (al, .inl (cJ, 64, .inl x.1)), (af, .inl (cJ, 4, .inl x.2.1)), (an, .inl (cJ, 4, .inl x.2.2))]) [0, 1, 2, 3, 4, 5, 6, 7] (by decide) rfl
      have hKc := hK.sub (tys' := [(cJ, .int)]) [0] rfl
      have hFc := va_free (wc := [(h, .inr (2, [.ref ac, .ref au, .ref ab, .ref ae, .ref am, .ref ap, .int sz0, .ref ak, .ref al, .ref af, .ref an, .int (nI n), .ref ar, .int sm])), (ac, .inl (cJ, 64, .inl ks_k)), (au, .inl (cJ, 16, .inl ks_tt)), (ae, .inl (cJ, 4, .inl ks_tmI)), (am, .inl (cJ, 4, .inl ks_moI)), (al, .inl (cJ, 64, .inl x.1)), (af, .inl (cJ, 4, .inl x.2.1)), (an, .inl (cJ, 4, .inl x.2.2))]) hD hS hA [0, 1, 2, 3, 4, 5, 6, 7] rfl
      refine va_callv (va_runV (As := [.int 128]) (rest := []) ⟨hx, hb, hml, hown, hts⟩ (r_come l dC dI s.heap.size h ac au ab ae am ap ak al af an ar cJ sz0 sm n x.1 x.2.1 x.2.2 (ks_pad f n) 128 (by omega) hi (by rw [show ks_pad f n n = 128 by unfold ks_pad; rw [if_neg (Nat.lt_irrefl _), if_pos rfl]])) (cwV 1 hts gX2_sum_X2_come rfl rfl rfl (by decide +kernel) ⟨Nat.le_of_ble_eq_true rfl, Nat.le_of_ble_eq_true rfl⟩) ⟨fun a U g mk q => by obtain ⟨q0, q1, qP, qK, qD⟩ := q; exact ⟨q0, q1, qP, va_K.moved (u := U) (U := U.calling g mk a) (Vm.Alike.refl U.vm) qK, qD⟩, va_recv hKc hPc (ci := 2) (q0 := 0) rfl rfl, fun U hU hW => ⟨rfl, by rw [hU], by rw [hU]; exact hPc, va_K.moved hW.alike hKc, hDc.weaken (fun _ _ _ _ => trivial)⟩⟩ rfl rfl hl.1 rfl (lv_room (Nat.le_of_ble_eq_true rfl)) dX2_sum_47 ⟨Nat.zero_le _, Nat.zero_le _⟩) hS (fun q _ h => hFc q h) hFc (fun u t H1 locs ht hvm hw hB hz1 hk1 hS => ?_)
      obtain ⟨b2, f2, n2⟩ := u
      obtain ⟨hP1, hK1, hD1⟩ := hB
      rw [ht] at hP1
      have hK1 := va_K.moved hvm.symm hK1
      try dsimp only at hw
      obtain ⟨hP, hD⟩ := va_join (wr := [(ak, .inl (cJ, 16, .inl fk)), (ar, .inl (cJ, 16, .inl rs)), (ab, .inl (cJ, 4, .inl ks_begI))]) (w1 := [(h, .inr (2, [.ref ac, .ref au, .ref ab, .ref ae, .ref am, .ref ap, .int sz0, .ref ak, .ref al, .ref af, .ref an, .int (nI (n + 1)), .ref ar, .int sm])), (ac, .inl (cJ, 64, .inl ks_k)), (au, .inl (cJ, 16, .inl ks_tt)), (ae, .inl (cJ, 4, .inl ks_tmI)), (am, .inl (cJ, 4, .inl ks_moI)), (al, .inl (cJ, 64, .inl b2)), (af, .inl (cJ, 4, .inl f2)), (an, .inl (cJ, 4, .inl n2))]) hP hD [0, 1, 2, 3, 4, 5, 6, 7] [8, 9, 10] rfl rfl (by decide) (by decide) hk1 hFc hP1 hD1
      have hP := hP.sub (ws' := [(h, .inr (2, [.ref ac, .ref au, .ref ab, .ref ae, .ref am, .ref ap, .int sz0, .ref ak, .ref al, .ref af, .ref an, .int (nI (n + 1)), .ref ar, .int sm])), (ac, .inl (cJ, 64, .inl ks_k)), (au, .inl (cJ, 16, .inl ks_tt)), (ae, .inl (cJ, 4, .inl ks_tmI)), (am, .inl (cJ, 4, .inl ks_moI)), (al, .inl (cJ, 64, .inl b2)), (af, .inl (cJ, 4, .inl f2)), (an, .inl (cJ, 4, .inl n2)), (ak, .inl (cJ, 16, .inl fk)), (ar, .inl (cJ, 16, .inl rs)), (ab, .inl (cJ, 4, .inl ks_begI))]) [3, 4, 5, 6, 7, 8, 9, 10, 0, 1, 2] rfl
      have hD := hD.sub (ws' := [(h, .inr (2, [.ref ac, .ref au, .ref ab, .ref ae, .ref am, .ref ap, .int sz0, .ref ak, .ref al, .ref af, .ref an, .int (nI (n + 1)), .ref ar, .int sm])), (ac, .inl (cJ, 64, .inl ks_k)), (au, .inl (cJ, 16, .inl ks_tt)), (ae, .inl (cJ, 4, .inl ks_tmI)), (am, .inl (cJ, 4, .inl ks_moI)), (al, .inl (cJ, 64, .inl b2)), (af, .inl (cJ, 4, .inl f2)), (an, .inl (cJ, 4, .inl n2)), (ak, .inl (cJ, 16, .inl fk)), (ar, .inl (cJ, 16, .inl rs)), (ab, .inl (cJ, 4, .inl ks_begI))]) [3, 4, 5, 6, 7, 8, 9, 10, 0, 1, 2] (by decide) rfl
      generalize H1 = H at hP hS ⊢
      have hP : va_P (dC, dI) vwCl [(h, .inr (2, [.ref ac, .ref au, .ref ab, .ref ae, .ref am, .ref ap, .int sz0, .ref ak, .ref al, .ref af, .ref an, .int (nI (n + 1)), .ref ar, .int sm])), (ac, .inl (cJ, 64, .inl ks_k)), (au, .inl (cJ, 16, .inl ks_tt)), (ae, .inl (cJ, 4, .inl ks_tmI)), (am, .inl (cJ, 4, .inl ks_moI)), (al, .inl (cJ, 64, .inl b2)), (af, .inl (cJ, 4, .inl f2)), (an, .inl (cJ, 4, .inl n2)), (ak, .inl (cJ, 16, .inl fk)), (ar, .inl (cJ, 16, .inl rs)), (ab, .inl (cJ, 4, .inl ks_begI))] H := hP
      have hD : va_D A [(h, .inr (2, [.ref ac, .ref au, .ref ab, .ref ae, .ref am, .ref ap, .int sz0, .ref ak, .ref al, .ref af, .ref an, .int (nI (n + 1)), .ref ar, .int sm])), (ac, .inl (cJ, 64, .inl ks_k)), (au, .inl (cJ, 16, .inl ks_tt)), (ae, .inl (cJ, 4, .inl ks_tmI)), (am, .inl (cJ, 4, .inl ks_moI)), (al, .inl (cJ, 64, .inl b2)), (af, .inl (cJ, 4, .inl f2)), (an, .inl (cJ, 4, .inl n2)), (ak, .inl (cJ, 16, .inl fk)), (ar, .inl (cJ, 16, .inl rs)), (ab, .inl (cJ, 4, .inl ks_begI))] := hD
      refine kz_loop (σ := (Nat → Int32) × (Nat → Int32) × (Nat → Int32)) (fun i x ls H locs => rf_inv (ks_pad f n) (n + 1 + i) x.1 x.2.1 ∧ lv_has ls 6 [(3, .long (lN (8 * n))), (2, .int (nI n)), (0, .ref h)] ∧ va_P (dC, dI) vwCl [(h, .inr (2, [.ref ac, .ref au, .ref ab, .ref ae, .ref am, .ref ap, .int sz0, .ref ak, .ref al, .ref af, .ref an, .int (nI (n + 1 + i)), .ref ar, .int sm])), (ac, .inl (cJ, 64, .inl ks_k)), (au, .inl (cJ, 16, .inl ks_tt)), (ae, .inl (cJ, 4, .inl ks_tmI)), (am, .inl (cJ, 4, .inl ks_moI)), (al, .inl (cJ, 64, .inl x.1)), (af, .inl (cJ, 4, .inl x.2.1)), (an, .inl (cJ, 4, .inl x.2.2)), (ak, .inl (cJ, 16, .inl fk)), (ar, .inl (cJ, 16, .inl rs)), (ab, .inl (cJ, 4, .inl ks_begI))] H ∧ va_D A [(h, .inr (2, [.ref ac, .ref au, .ref ab, .ref ae, .ref am, .ref ap, .int sz0, .ref ak, .ref al, .ref af, .ref an, .int (nI (n + 1 + i)), .ref ar, .int sm])), (ac, .inl (cJ, 64, .inl ks_k)), (au, .inl (cJ, 16, .inl ks_tt)), (ae, .inl (cJ, 4, .inl ks_tmI)), (am, .inl (cJ, 4, .inl ks_moI)), (al, .inl (cJ, 64, .inl x.1)), (af, .inl (cJ, 4, .inl x.2.1)), (an, .inl (cJ, 4, .inl x.2.2)), (ak, .inl (cJ, 16, .inl fk)), (ar, .inl (cJ, 16, .inl rs)), (ab, .inl (cJ, 4, .inl ks_begI))] ∧ va_S A s.heap H locs) (ks_end n - (n + 1)) ?_ ?_ 0 (b2, f2, n2) ls _ _ (Nat.zero_le _) ⟨hw, lv_sub hl [0, 1, 2] rfl, hP, hD, hS⟩
      · skip
        intro i x ls H locs hlt hI ih
        obtain ⟨hv, hl, hP, hD, hS⟩ := hI
        refine lv_aload_n hx hb dX2_sum_50 rfl (lv_at hl 2 rfl) ?_
        refine va_get (D := (dC, dI)) (ci := 2) (v := .int (nI (n + 1 + i))) (C := RX2) (T := TX2) (N := 14) hx hb hts (by decide +kernel) hown hK hP 0 rfl rfl 11 (by decide) (hts (.fieldLink RX2 114 "KeySumsModel" "many" "I") (by decide +kernel)) (fun _ h9 => h9) rfl dX2_sum_51 ?_
        refine lv_bipush (v := 64) hx hb dX2_sum_54 (by decide) ?_
        refine lv_irem hx hb dX2_sum_56 (by decide) ?_
        refine kz_top (y := nI ((n + 1 + i) % 64)) (pk_rem (d := 64) (by omega) (by decide) (by decide)) ?_
        refine lv_bipush (v := 56) hx hb dX2_sum_57 (by decide) ?_
        refine lv_icmp_eq (tgt := 70) hx hb dX2_sum_59 (by decide) (fun hc => ?_) (fun hc => ?_)
        · skip
          exact absurd ((nI_eq (a := (n + 1 + i) % 64) (b := 56) (by omega) (by decide)).mp hc) (by unfold ks_end at hlt; omega)
        · skip
          refine lv_aload_n hx hb dX2_sum_62 rfl (lv_at hl 2 rfl) ?_
          refine lv_iconst (v := 0) hx hb dX2_sum_63 (by decide) ?_
          have hPc := hP.sub (ws' := [(h, .inr (2, [.ref ac, .ref au, .ref ab, .ref ae, .ref am, .ref ap, .int sz0, .ref ak, .ref al, .ref af, .ref an, .int (nI (n + 1 + i)), .ref ar, .int sm])), (ac, .inl (cJ, 64, .inl ks_k)), (au, .inl (cJ, 16, .inl ks_tt)), (ae, .inl (cJ, 4, .inl ks_tmI)), (am, .inl (cJ, 4, .inl ks_moI)), (al, .inl (cJ, 64, .inl x.1)), (af, .inl (cJ, 4, .inl x.2.1)), (an, .inl (cJ, 4, .inl x.2.2))]) [0, 1, 2, 3, 4, 5, 6, 7] rfl
          have hDc := hD.sub (ws' := [(h, .inr (2, [.ref ac, .ref au, .ref ab, .ref ae, .ref am, .ref ap, .int sz0, .ref ak, .ref al, .ref af, .ref an, .int (nI (n + 1 + i)), .ref ar, .int sm])), (ac, .inl (cJ, 64, .inl ks_k)), (au, .inl (cJ, 16, .inl ks_tt)), (ae, .inl (cJ, 4, .inl ks_tmI)), (am, .inl (cJ, 4, .inl ks_moI)), (al, .inl (cJ, 64, .inl x.1)), (af, .inl (cJ, 4, .inl x.2.1)), (an, .inl (cJ, 4, .inl x.2.2))]) [0, 1, 2, 3, 4, 5, 6, 7] (by decide) rfl
          have hKc := hK.sub (tys' := [(cJ, .int)]) [0] rfl
          have hFc := va_free (wc := [(h, .inr (2, [.ref ac, .ref au, .ref ab, .ref ae, .ref am, .ref ap, .int sz0, .ref ak, .ref al, .ref af, .ref an, .int (nI (n + 1 + i)), .ref ar, .int sm])), (ac, .inl (cJ, 64, .inl ks_k)), (au, .inl (cJ, 16, .inl ks_tt)), (ae, .inl (cJ, 4, .inl ks_tmI)), (am, .inl (cJ, 4, .inl ks_moI)), (al, .inl (cJ, 64, .inl x.1)), (af, .inl (cJ, 4, .inl x.2.1)), (an, .inl (cJ, 4, .inl x.2.2))]) hD hS hA [0, 1, 2, 3, 4, 5, 6, 7] rfl
          refine va_callv (va_runV (As := [.int 0]) (rest := []) ⟨hx, hb, hml, hown, hts⟩ (r_come l dC dI H.size h ac au ab ae am ap ak al af an ar cJ sz0 sm (n + 1 + i) x.1 x.2.1 x.2.2 (ks_pad f n) 0 (by omega) hv (by rw [show ks_pad f n (n + 1 + i) = 0 by unfold ks_pad; rw [if_neg (by omega), if_neg (by omega), if_pos (by omega)]])) (cwV 1 hts gX2_sum_X2_come rfl rfl rfl (by decide +kernel) ⟨Nat.le_of_ble_eq_true rfl, Nat.le_of_ble_eq_true rfl⟩) ⟨fun a U g mk q => by obtain ⟨q0, q1, qP, qK, qD⟩ := q; exact ⟨q0, q1, qP, va_K.moved (u := U) (U := U.calling g mk a) (Vm.Alike.refl U.vm) qK, qD⟩, va_recv hKc hPc (ci := 2) (q0 := 0) rfl rfl, fun U hU hW => ⟨rfl, by rw [hU], by rw [hU]; exact hPc, va_K.moved hW.alike hKc, hDc.weaken (fun _ _ _ _ => trivial)⟩⟩ rfl rfl hl.1 rfl (lv_room (Nat.le_of_ble_eq_true rfl)) dX2_sum_64 ⟨Nat.zero_le _, Nat.zero_le _⟩) hS (fun q _ h => hFc q h) hFc (fun u t H1 locs ht hvm hw hB hz1 hk1 hS => ?_)
          obtain ⟨b2, f2, n2⟩ := u
          obtain ⟨hP1, hK1, hD1⟩ := hB
          rw [ht] at hP1
          have hK1 := va_K.moved hvm.symm hK1
          try dsimp only at hw
          obtain ⟨hP, hD⟩ := va_join (wr := [(ak, .inl (cJ, 16, .inl fk)), (ar, .inl (cJ, 16, .inl rs)), (ab, .inl (cJ, 4, .inl ks_begI))]) (w1 := [(h, .inr (2, [.ref ac, .ref au, .ref ab, .ref ae, .ref am, .ref ap, .int sz0, .ref ak, .ref al, .ref af, .ref an, .int (nI (n + 1 + i + 1)), .ref ar, .int sm])), (ac, .inl (cJ, 64, .inl ks_k)), (au, .inl (cJ, 16, .inl ks_tt)), (ae, .inl (cJ, 4, .inl ks_tmI)), (am, .inl (cJ, 4, .inl ks_moI)), (al, .inl (cJ, 64, .inl b2)), (af, .inl (cJ, 4, .inl f2)), (an, .inl (cJ, 4, .inl n2))]) hP hD [0, 1, 2, 3, 4, 5, 6, 7] [8, 9, 10] rfl rfl (by decide) (by decide) hk1 hFc hP1 hD1
          have hP := hP.sub (ws' := [(h, .inr (2, [.ref ac, .ref au, .ref ab, .ref ae, .ref am, .ref ap, .int sz0, .ref ak, .ref al, .ref af, .ref an, .int (nI (n + 1 + i + 1)), .ref ar, .int sm])), (ac, .inl (cJ, 64, .inl ks_k)), (au, .inl (cJ, 16, .inl ks_tt)), (ae, .inl (cJ, 4, .inl ks_tmI)), (am, .inl (cJ, 4, .inl ks_moI)), (al, .inl (cJ, 64, .inl b2)), (af, .inl (cJ, 4, .inl f2)), (an, .inl (cJ, 4, .inl n2)), (ak, .inl (cJ, 16, .inl fk)), (ar, .inl (cJ, 16, .inl rs)), (ab, .inl (cJ, 4, .inl ks_begI))]) [3, 4, 5, 6, 7, 8, 9, 10, 0, 1, 2] rfl
          have hD := hD.sub (ws' := [(h, .inr (2, [.ref ac, .ref au, .ref ab, .ref ae, .ref am, .ref ap, .int sz0, .ref ak, .ref al, .ref af, .ref an, .int (nI (n + 1 + i + 1)), .ref ar, .int sm])), (ac, .inl (cJ, 64, .inl ks_k)), (au, .inl (cJ, 16, .inl ks_tt)), (ae, .inl (cJ, 4, .inl ks_tmI)), (am, .inl (cJ, 4, .inl ks_moI)), (al, .inl (cJ, 64, .inl b2)), (af, .inl (cJ, 4, .inl f2)), (an, .inl (cJ, 4, .inl n2)), (ak, .inl (cJ, 16, .inl fk)), (ar, .inl (cJ, 16, .inl rs)), (ab, .inl (cJ, 4, .inl ks_begI))]) [3, 4, 5, 6, 7, 8, 9, 10, 0, 1, 2] (by decide) rfl
          generalize H1 = H at hP hS ⊢
          have hP : va_P (dC, dI) vwCl [(h, .inr (2, [.ref ac, .ref au, .ref ab, .ref ae, .ref am, .ref ap, .int sz0, .ref ak, .ref al, .ref af, .ref an, .int (nI (n + 1 + i + 1)), .ref ar, .int sm])), (ac, .inl (cJ, 64, .inl ks_k)), (au, .inl (cJ, 16, .inl ks_tt)), (ae, .inl (cJ, 4, .inl ks_tmI)), (am, .inl (cJ, 4, .inl ks_moI)), (al, .inl (cJ, 64, .inl b2)), (af, .inl (cJ, 4, .inl f2)), (an, .inl (cJ, 4, .inl n2)), (ak, .inl (cJ, 16, .inl fk)), (ar, .inl (cJ, 16, .inl rs)), (ab, .inl (cJ, 4, .inl ks_begI))] H := hP
          have hD : va_D A [(h, .inr (2, [.ref ac, .ref au, .ref ab, .ref ae, .ref am, .ref ap, .int sz0, .ref ak, .ref al, .ref af, .ref an, .int (nI (n + 1 + i + 1)), .ref ar, .int sm])), (ac, .inl (cJ, 64, .inl ks_k)), (au, .inl (cJ, 16, .inl ks_tt)), (ae, .inl (cJ, 4, .inl ks_tmI)), (am, .inl (cJ, 4, .inl ks_moI)), (al, .inl (cJ, 64, .inl b2)), (af, .inl (cJ, 4, .inl f2)), (an, .inl (cJ, 4, .inl n2)), (ak, .inl (cJ, 16, .inl fk)), (ar, .inl (cJ, 16, .inl rs)), (ab, .inl (cJ, 4, .inl ks_begI))] := hD
          refine lv_goto (tgt := 50) hx hb dX2_sum_67 (by decide) ?_
          exact ih (b2, f2, n2) ls H locs ⟨hw, lv_sub hl [0, 1, 2] rfl, hP, hD, hS⟩
      · skip
        intro x ls H locs hI
        obtain ⟨hv, hl, hP, hD, hS⟩ := hI
        rw [show n + 1 + (ks_end n - (n + 1)) = ks_end n by omega] at hv hP hD
        refine lv_aload_n hx hb dX2_sum_50 rfl (lv_at hl 2 rfl) ?_
        refine va_get (D := (dC, dI)) (ci := 2) (v := .int (nI (ks_end n))) (C := RX2) (T := TX2) (N := 14) hx hb hts (by decide +kernel) hown hK hP 0 rfl rfl 11 (by decide) (hts (.fieldLink RX2 114 "KeySumsModel" "many" "I") (by decide +kernel)) (fun _ h9 => h9) rfl dX2_sum_51 ?_
        refine lv_bipush (v := 64) hx hb dX2_sum_54 (by decide) ?_
        refine lv_irem hx hb dX2_sum_56 (by decide) ?_
        refine kz_top (y := nI (ks_end n % 64)) (pk_rem (d := 64) (by omega) (by decide) (by decide)) ?_
        refine lv_bipush (v := 56) hx hb dX2_sum_57 (by decide) ?_
        refine lv_icmp_eq (tgt := 70) hx hb dX2_sum_59 (by decide) (fun hc => ?_) (fun hc => ?_)
        · skip
          refine lv_iconst (v := 0) hx hb dX2_sum_70 (by decide) ?_
          refine kz_top (y := nI 0) nI_0.symm ?_
          refine lv_istore (lv' := [(5, .int (nI 0)), (3, .long (lN (8 * n))), (2, .int (nI n)), (0, .ref h)]) hx hb dX2_sum_71 hl (by decide) rfl (fun ls hl => ?_)
          refine kz_loop (σ := (Nat → Int32) × (Nat → Int32) × (Nat → Int32)) (fun i x ls H locs => rf_inv (ks_pad f n) (ks_end n + i) x.1 x.2.1 ∧ lv_has ls 6 [(5, .int (nI i)), (3, .long (lN (8 * n))), (2, .int (nI n)), (0, .ref h)] ∧ va_P (dC, dI) vwCl [(h, .inr (2, [.ref ac, .ref au, .ref ab, .ref ae, .ref am, .ref ap, .int sz0, .ref ak, .ref al, .ref af, .ref an, .int (nI (ks_end n + i)), .ref ar, .int sm])), (ac, .inl (cJ, 64, .inl ks_k)), (au, .inl (cJ, 16, .inl ks_tt)), (ae, .inl (cJ, 4, .inl ks_tmI)), (am, .inl (cJ, 4, .inl ks_moI)), (al, .inl (cJ, 64, .inl x.1)), (af, .inl (cJ, 4, .inl x.2.1)), (an, .inl (cJ, 4, .inl x.2.2)), (ak, .inl (cJ, 16, .inl fk)), (ar, .inl (cJ, 16, .inl rs)), (ab, .inl (cJ, 4, .inl ks_begI))] H ∧ va_D A [(h, .inr (2, [.ref ac, .ref au, .ref ab, .ref ae, .ref am, .ref ap, .int sz0, .ref ak, .ref al, .ref af, .ref an, .int (nI (ks_end n + i)), .ref ar, .int sm])), (ac, .inl (cJ, 64, .inl ks_k)), (au, .inl (cJ, 16, .inl ks_tt)), (ae, .inl (cJ, 4, .inl ks_tmI)), (am, .inl (cJ, 4, .inl ks_moI)), (al, .inl (cJ, 64, .inl x.1)), (af, .inl (cJ, 4, .inl x.2.1)), (an, .inl (cJ, 4, .inl x.2.2)), (ak, .inl (cJ, 16, .inl fk)), (ar, .inl (cJ, 16, .inl rs)), (ab, .inl (cJ, 4, .inl ks_begI))] ∧ va_S A s.heap H locs) 8 ?_ ?_ 0 x ls _ _ (Nat.zero_le _) ⟨hv, lv_sub hl [0, 1, 2, 3] rfl, hP, hD, hS⟩
          · skip
            intro i x ls H locs hlt hI ih
            obtain ⟨hv, hl, hP, hD, hS⟩ := hI
            refine lv_iload hx hb dX2_sum_73 (lv_at hl 0 rfl) ?_
            refine lv_bipush (v := 8) hx hb dX2_sum_75 (by decide) ?_
            refine lv_icmp_ge (tgt := 102) hx hb dX2_sum_77 (by decide) (fun hc => ?_) (fun hc => ?_)
            · skip
              exact absurd hc (nI_ge (a := i) (b := 8) hlt (by decide))
            · skip
              refine lv_aload_n hx hb dX2_sum_80 rfl (lv_at hl 3 rfl) ?_
              refine lv_lload_n hx hb dX2_sum_81 rfl (lv_at hl 1 rfl) ?_
              refine lv_bipush (v := 8) hx hb dX2_sum_82 (by decide) ?_
              refine lv_iload hx hb dX2_sum_84 (lv_at hl 0 rfl) ?_
              refine lv_imul hx hb dX2_sum_86 ?_
              refine kz_top (y := nI (8 * i)) (pk_mul 8 i) ?_
              refine lv_lshr (v := ks_ssl (lN (8 * n)) (nI (8 * i))) hx hb dX2_sum_87 rfl ?_
              refine lv_l2i (v := (ks_ssl (lN (8 * n)) (nI (8 * i))).toInt32) hx hb dX2_sum_88 rfl ?_
              refine lv_sipush (v := 255) hx hb dX2_sum_89 (by decide) ?_
              refine lv_iand hx hb dX2_sum_92 ?_
              have hPc := hP.sub (ws' := [(h, .inr (2, [.ref ac, .ref au, .ref ab, .ref ae, .ref am, .ref ap, .int sz0, .ref ak, .ref al, .ref af, .ref an, .int (nI (ks_end n + i)), .ref ar, .int sm])), (ac, .inl (cJ, 64, .inl ks_k)), (au, .inl (cJ, 16, .inl ks_tt)), (ae, .inl (cJ, 4, .inl ks_tmI)), (am, .inl (cJ, 4, .inl ks_moI)), (al, .inl (cJ, 64, .inl x.1)), (af, .inl (cJ, 4, .inl x.2.1)), (an, .inl (cJ, 4, .inl x.2.2))]) [0, 1, 2, 3, 4, 5, 6, 7] rfl
              have hDc := hD.sub (ws' := [(h, .inr (2, [.ref ac, .ref au, .ref ab, .ref ae, .ref am, .ref ap, .int sz0, .ref ak, .ref al, .ref af, .ref an, .int (nI (ks_end n + i)), .ref ar, .int sm])), (ac, .inl (cJ, 64, .inl ks_k)), (au, .inl (cJ, 16, .inl ks_tt)), (ae, .inl (cJ, 4, .inl ks_tmI)), (am, .inl (cJ, 4, .inl ks_moI)), (al, .inl (cJ, 64, .inl x.1)), (af, .inl (cJ, 4, .inl x.2.1)), (an, .inl (cJ, 4, .inl x.2.2))]) [0, 1, 2, 3, 4, 5, 6, 7] (by decide) rfl
              have hKc := hK.sub (tys' := [(cJ, .int)]) [0] rfl
              have hFc := va_free (wc := [(h, .inr (2, [.ref ac, .ref au, .ref ab, .ref ae, .ref am, .ref ap, .int sz0, .ref ak, .ref al, .ref af, .ref an, .int (nI (ks_end n + i)), .ref ar, .int sm])), (ac, .inl (cJ, 64, .inl ks_k)), (au, .inl (cJ, 16, .inl ks_tt)), (ae, .inl (cJ, 4, .inl ks_tmI)), (am, .inl (cJ, 4, .inl ks_moI)), (al, .inl (cJ, 64, .inl x.1)), (af, .inl (cJ, 4, .inl x.2.1)), (an, .inl (cJ, 4, .inl x.2.2))]) hD hS hA [0, 1, 2, 3, 4, 5, 6, 7] rfl
              refine va_callv (va_runV (As := [.int (((ks_ssl (lN (8 * n)) (nI (8 * i))).toInt32) &&& 255)]) (rest := []) ⟨hx, hb, hml, hown, hts⟩ (r_come l dC dI H.size h ac au ab ae am ap ak al af an ar cJ sz0 sm (ks_end n + i) x.1 x.2.1 x.2.2 (ks_pad f n) (((ks_ssl (lN (8 * n)) (nI (8 * i))).toInt32) &&& 255) (by omega) hv (rf_len8 f (by omega) hlt)) (cwV 1 hts gX2_sum_X2_come rfl rfl rfl (by decide +kernel) ⟨Nat.le_of_ble_eq_true rfl, Nat.le_of_ble_eq_true rfl⟩) ⟨fun a U g mk q => by obtain ⟨q0, q1, qP, qK, qD⟩ := q; exact ⟨q0, q1, qP, va_K.moved (u := U) (U := U.calling g mk a) (Vm.Alike.refl U.vm) qK, qD⟩, va_recv hKc hPc (ci := 2) (q0 := 0) rfl rfl, fun U hU hW => ⟨rfl, by rw [hU], by rw [hU]; exact hPc, va_K.moved hW.alike hKc, hDc.weaken (fun _ _ _ _ => trivial)⟩⟩ rfl rfl hl.1 rfl (lv_room (Nat.le_of_ble_eq_true rfl)) dX2_sum_93 ⟨Nat.zero_le _, Nat.zero_le _⟩) hS (fun q _ h => hFc q h) hFc (fun u t H1 locs ht hvm hw hB hz1 hk1 hS => ?_)
              obtain ⟨b2, f2, n2⟩ := u
              obtain ⟨hP1, hK1, hD1⟩ := hB
              rw [ht] at hP1
              have hK1 := va_K.moved hvm.symm hK1
              try dsimp only at hw
              obtain ⟨hP, hD⟩ := va_join (wr := [(ak, .inl (cJ, 16, .inl fk)), (ar, .inl (cJ, 16, .inl rs)), (ab, .inl (cJ, 4, .inl ks_begI))]) (w1 := [(h, .inr (2, [.ref ac, .ref au, .ref ab, .ref ae, .ref am, .ref ap, .int sz0, .ref ak, .ref al, .ref af, .ref an, .int (nI (ks_end n + i + 1)), .ref ar, .int sm])), (ac, .inl (cJ, 64, .inl ks_k)), (au, .inl (cJ, 16, .inl ks_tt)), (ae, .inl (cJ, 4, .inl ks_tmI)), (am, .inl (cJ, 4, .inl ks_moI)), (al, .inl (cJ, 64, .inl b2)), (af, .inl (cJ, 4, .inl f2)), (an, .inl (cJ, 4, .inl n2))]) hP hD [0, 1, 2, 3, 4, 5, 6, 7] [8, 9, 10] rfl rfl (by decide) (by decide) hk1 hFc hP1 hD1
              have hP := hP.sub (ws' := [(h, .inr (2, [.ref ac, .ref au, .ref ab, .ref ae, .ref am, .ref ap, .int sz0, .ref ak, .ref al, .ref af, .ref an, .int (nI (ks_end n + i + 1)), .ref ar, .int sm])), (ac, .inl (cJ, 64, .inl ks_k)), (au, .inl (cJ, 16, .inl ks_tt)), (ae, .inl (cJ, 4, .inl ks_tmI)), (am, .inl (cJ, 4, .inl ks_moI)), (al, .inl (cJ, 64, .inl b2)), (af, .inl (cJ, 4, .inl f2)), (an, .inl (cJ, 4, .inl n2)), (ak, .inl (cJ, 16, .inl fk)), (ar, .inl (cJ, 16, .inl rs)), (ab, .inl (cJ, 4, .inl ks_begI))]) [3, 4, 5, 6, 7, 8, 9, 10, 0, 1, 2] rfl
              have hD := hD.sub (ws' := [(h, .inr (2, [.ref ac, .ref au, .ref ab, .ref ae, .ref am, .ref ap, .int sz0, .ref ak, .ref al, .ref af, .ref an, .int (nI (ks_end n + i + 1)), .ref ar, .int sm])), (ac, .inl (cJ, 64, .inl ks_k)), (au, .inl (cJ, 16, .inl ks_tt)), (ae, .inl (cJ, 4, .inl ks_tmI)), (am, .inl (cJ, 4, .inl ks_moI)), (al, .inl (cJ, 64, .inl b2)), (af, .inl (cJ, 4, .inl f2)), (an, .inl (cJ, 4, .inl n2)), (ak, .inl (cJ, 16, .inl fk)), (ar, .inl (cJ, 16, .inl rs)), (ab, .inl (cJ, 4, .inl ks_begI))]) [3, 4, 5, 6, 7, 8, 9, 10, 0, 1, 2] (by decide) rfl
              generalize H1 = H at hP hS ⊢
              have hP : va_P (dC, dI) vwCl [(h, .inr (2, [.ref ac, .ref au, .ref ab, .ref ae, .ref am, .ref ap, .int sz0, .ref ak, .ref al, .ref af, .ref an, .int (nI (ks_end n + i + 1)), .ref ar, .int sm])), (ac, .inl (cJ, 64, .inl ks_k)), (au, .inl (cJ, 16, .inl ks_tt)), (ae, .inl (cJ, 4, .inl ks_tmI)), (am, .inl (cJ, 4, .inl ks_moI)), (al, .inl (cJ, 64, .inl b2)), (af, .inl (cJ, 4, .inl f2)), (an, .inl (cJ, 4, .inl n2)), (ak, .inl (cJ, 16, .inl fk)), (ar, .inl (cJ, 16, .inl rs)), (ab, .inl (cJ, 4, .inl ks_begI))] H := hP
              have hD : va_D A [(h, .inr (2, [.ref ac, .ref au, .ref ab, .ref ae, .ref am, .ref ap, .int sz0, .ref ak, .ref al, .ref af, .ref an, .int (nI (ks_end n + i + 1)), .ref ar, .int sm])), (ac, .inl (cJ, 64, .inl ks_k)), (au, .inl (cJ, 16, .inl ks_tt)), (ae, .inl (cJ, 4, .inl ks_tmI)), (am, .inl (cJ, 4, .inl ks_moI)), (al, .inl (cJ, 64, .inl b2)), (af, .inl (cJ, 4, .inl f2)), (an, .inl (cJ, 4, .inl n2)), (ak, .inl (cJ, 16, .inl fk)), (ar, .inl (cJ, 16, .inl rs)), (ab, .inl (cJ, 4, .inl ks_begI))] := hD
              refine lv_iinc (v := nI (i + 1)) (lv' := [(5, .int (nI (i + 1))), (3, .long (lN (8 * n))), (2, .int (nI n)), (0, .ref h)]) hx hb dX2_sum_96 hl (k := 0) rfl (nI_1 i) (by decide) rfl (fun ls hl => ?_)
              refine lv_goto (tgt := 73) hx hb dX2_sum_99 (by decide) ?_
              exact ih (b2, f2, n2) ls H locs ⟨hw, lv_sub hl [0, 1, 2, 3] rfl, hP, hD, hS⟩
          · skip
            intro x ls H locs hI
            obtain ⟨hv, hl, hP, hD, hS⟩ := hI
            refine lv_iload hx hb dX2_sum_73 (lv_at hl 0 rfl) ?_
            refine lv_bipush (v := 8) hx hb dX2_sum_75 (by decide) ?_
            refine lv_icmp_ge (tgt := 102) hx hb dX2_sum_77 (by decide) (fun hc => ?_) (fun hc => ?_)
            · skip
              have hq : ks_4 x.2.1 = ks_sum f n := by
                rw [hv.1, show (ks_end n + 8) / 64 = (n + 8) / 64 + 1 by unfold ks_end; omega]
                rfl
              refine lv_iconst (v := 0) hx hb dX2_sum_102 (by decide) ?_
              refine kz_top (y := nI 0) nI_0.symm ?_
              refine lv_istore (lv' := [(5, .int (nI 0)), (3, .long (lN (8 * n))), (2, .int (nI n)), (0, .ref h)]) hx hb dX2_sum_103 hl (by decide) rfl (fun ls hl => ?_)
              refine kz_loop (σ := Nat → Int32) (fun i y2 ls H locs => (∀ j, j < i → y2 j = (x.2.1 (j / 4) >>> (nI (8 * (j % 4)) &&& 31)) &&& 255) ∧ lv_has ls 6 [(5, .int (nI i)), (2, .int (nI n)), (0, .ref h)] ∧ va_P (dC, dI) vwCl [(h, .inr (2, [.ref ac, .ref au, .ref ab, .ref ae, .ref am, .ref ap, .int sz0, .ref ak, .ref al, .ref af, .ref an, .int (nI (ks_end n + 8)), .ref ar, .int sm])), (ac, .inl (cJ, 64, .inl ks_k)), (au, .inl (cJ, 16, .inl ks_tt)), (ae, .inl (cJ, 4, .inl ks_tmI)), (am, .inl (cJ, 4, .inl ks_moI)), (al, .inl (cJ, 64, .inl x.1)), (af, .inl (cJ, 4, .inl x.2.1)), (an, .inl (cJ, 4, .inl x.2.2)), (ak, .inl (cJ, 16, .inl fk)), (ar, .inl (cJ, 16, .inl y2)), (ab, .inl (cJ, 4, .inl ks_begI))] H ∧ va_D A [(h, .inr (2, [.ref ac, .ref au, .ref ab, .ref ae, .ref am, .ref ap, .int sz0, .ref ak, .ref al, .ref af, .ref an, .int (nI (ks_end n + 8)), .ref ar, .int sm])), (ac, .inl (cJ, 64, .inl ks_k)), (au, .inl (cJ, 16, .inl ks_tt)), (ae, .inl (cJ, 4, .inl ks_tmI)), (am, .inl (cJ, 4, .inl ks_moI)), (al, .inl (cJ, 64, .inl x.1)), (af, .inl (cJ, 4, .inl x.2.1)), (an, .inl (cJ, 4, .inl x.2.2)), (ak, .inl (cJ, 16, .inl fk)), (ar, .inl (cJ, 16, .inl y2)), (ab, .inl (cJ, 4, .inl ks_begI))] ∧ va_S A s.heap H locs) 16 ?_ ?_ 0 rs ls _ _ (Nat.zero_le _) ⟨fun j hj => absurd hj (Nat.not_lt_zero j), lv_sub hl [0, 2, 3] rfl, hP, hD, hS⟩
              · skip
                intro i y2 ls H locs hlt hI ih
                obtain ⟨hv2, hl, hP, hD, hS⟩ := hI
                refine lv_iload hx hb dX2_sum_105 (lv_at hl 0 rfl) ?_
                refine lv_bipush (v := 16) hx hb dX2_sum_107 (by decide) ?_
                refine lv_icmp_ge (tgt := 146) hx hb dX2_sum_109 (by decide) (fun hc => ?_) (fun hc => ?_)
                · skip
                  exact absurd hc (nI_ge (a := i) (b := 16) hlt (by decide))
                · skip
                  refine lv_aload_n hx hb dX2_sum_112 rfl (lv_at hl 2 rfl) ?_
                  refine va_get (D := (dC, dI)) (ci := 2) (v := .ref ar) (C := RX2) (T := TX2) (N := 14) hx hb hts (by decide +kernel) hown hK hP 0 rfl rfl 12 (by decide) (hts (.fieldLink RX2 108 "KeySumsModel" "result" "[I") (by decide +kernel)) (fun _ h9 => h9) rfl dX2_sum_113 ?_
                  refine lv_iload hx hb dX2_sum_116 (lv_at hl 0 rfl) ?_
                  refine lv_aload_n hx hb dX2_sum_118 rfl (lv_at hl 2 rfl) ?_
                  refine va_get (D := (dC, dI)) (ci := 2) (v := .ref af) (C := RX2) (T := TX2) (N := 14) hx hb hts (by decide +kernel) hown hK hP 0 rfl rfl 9 (by decide) (hts (.fieldLink RX2 102 "KeySumsModel" "four" "[I") (by decide +kernel)) (fun _ h9 => h9) rfl dX2_sum_119 ?_
                  refine lv_iload hx hb dX2_sum_122 (lv_at hl 0 rfl) ?_
                  refine lv_iconst (v := 4) hx hb dX2_sum_124 (by decide) ?_
                  refine lv_idiv hx hb dX2_sum_125 (by decide) ?_
                  refine kz_top (y := nI (i / 4)) (pk_div (d := 4) (by omega) (by decide) (by decide)) ?_
                  refine kz_iald (j := (i / 4)) hx hb hK hP 6 0 rfl rfl (show i / 4 < 4 by omega) (by decide) dX2_sum_126 ?_
                  refine lv_bipush (v := 8) hx hb dX2_sum_127 (by decide) ?_
                  refine lv_iload hx hb dX2_sum_129 (lv_at hl 0 rfl) ?_
                  refine lv_iconst (v := 4) hx hb dX2_sum_131 (by decide) ?_
                  refine lv_irem hx hb dX2_sum_132 (by decide) ?_
                  refine kz_top (y := nI (i % 4)) (pk_rem (d := 4) (by omega) (by decide) (by decide)) ?_
                  refine lv_imul hx hb dX2_sum_133 ?_
                  refine kz_top (y := nI (8 * (i % 4))) (pk_mul 8 (i % 4)) ?_
                  refine lv_ishr hx hb dX2_sum_134 ?_
                  refine lv_sipush (v := 255) hx hb dX2_sum_135 (by decide) ?_
                  refine lv_iand hx hb dX2_sum_138 ?_
                  refine kz_iast (j := i) hx hb hK hP hD hS 9 0 rfl rfl (hlt) (by decide) dX2_sum_139 (fun H locs hP hD hS => ?_)
                  have hP : va_P (dC, dI) vwCl [(h, .inr (2, [.ref ac, .ref au, .ref ab, .ref ae, .ref am, .ref ap, .int sz0, .ref ak, .ref al, .ref af, .ref an, .int (nI (ks_end n + 8)), .ref ar, .int sm])), (ac, .inl (cJ, 64, .inl ks_k)), (au, .inl (cJ, 16, .inl ks_tt)), (ae, .inl (cJ, 4, .inl ks_tmI)), (am, .inl (cJ, 4, .inl ks_moI)), (al, .inl (cJ, 64, .inl x.1)), (af, .inl (cJ, 4, .inl x.2.1)), (an, .inl (cJ, 4, .inl x.2.2)), (ak, .inl (cJ, 16, .inl fk)), (ar, .inl (cJ, 16, .inl (upd y2 i (((x.2.1 (i / 4)) >>> ((nI (8 * (i % 4))) &&& 31)) &&& 255)))), (ab, .inl (cJ, 4, .inl ks_begI))] H := hP
                  have hD : va_D A [(h, .inr (2, [.ref ac, .ref au, .ref ab, .ref ae, .ref am, .ref ap, .int sz0, .ref ak, .ref al, .ref af, .ref an, .int (nI (ks_end n + 8)), .ref ar, .int sm])), (ac, .inl (cJ, 64, .inl ks_k)), (au, .inl (cJ, 16, .inl ks_tt)), (ae, .inl (cJ, 4, .inl ks_tmI)), (am, .inl (cJ, 4, .inl ks_moI)), (al, .inl (cJ, 64, .inl x.1)), (af, .inl (cJ, 4, .inl x.2.1)), (an, .inl (cJ, 4, .inl x.2.2)), (ak, .inl (cJ, 16, .inl fk)), (ar, .inl (cJ, 16, .inl (upd y2 i (((x.2.1 (i / 4)) >>> ((nI (8 * (i % 4))) &&& 31)) &&& 255)))), (ab, .inl (cJ, 4, .inl ks_begI))] := hD
                  refine lv_iinc (v := nI (i + 1)) (lv' := [(5, .int (nI (i + 1))), (2, .int (nI n)), (0, .ref h)]) hx hb dX2_sum_140 hl (k := 0) rfl (nI_1 i) (by decide) rfl (fun ls hl => ?_)
                  refine lv_goto (tgt := 105) hx hb dX2_sum_143 (by decide) ?_
                  refine ih _ ls H locs ⟨?_, lv_sub hl [0, 1, 2] rfl, hP, hD, hS⟩
                  intro j hj
                  by_cases q : j = i
                  · subst q; rw [pk_us]
                  · rw [pk_un q]; exact hv2 j (by omega)
              · skip
                intro y2 ls H locs hI
                obtain ⟨hv2, hl, hP, hD, hS⟩ := hI
                refine lv_iload hx hb dX2_sum_105 (lv_at hl 0 rfl) ?_
                refine lv_bipush (v := 16) hx hb dX2_sum_107 (by decide) ?_
                refine lv_icmp_ge (tgt := 146) hx hb dX2_sum_109 (by decide) (fun hc => ?_) (fun hc => ?_)
                · skip
                  refine lv_aload_n hx hb dX2_sum_146 rfl (lv_at hl 2 rfl) ?_
                  refine lv_iconst (v := 1) hx hb dX2_sum_147 (by decide) ?_
                  refine va_put (D := (dC, dI)) (ci := 2) (v := .int 1) (ty := .boolean) (C := RX2) (T := TX2) (N := 14) hx hb hts (by decide +kernel) tyX2 tyX2_ok nmX2 hown hK hP hD hS 0 rfl rfl 13 (by decide) (hts (.fieldLink RX2 140 "KeySumsModel" "isSummed" "Z") (by decide +kernel)) (fun _ h9 => h9) rfl (by decide +kernel) rfl rfl (Nat.le_of_ble_eq_true rfl) dX2_sum_148 (fun H locs hP hD hS => ?_)
                  have hP : va_P (dC, dI) vwCl [(h, .inr (2, [.ref ac, .ref au, .ref ab, .ref ae, .ref am, .ref ap, .int sz0, .ref ak, .ref al, .ref af, .ref an, .int (nI (ks_end n + 8)), .ref ar, .int 1])), (ac, .inl (cJ, 64, .inl ks_k)), (au, .inl (cJ, 16, .inl ks_tt)), (ae, .inl (cJ, 4, .inl ks_tmI)), (am, .inl (cJ, 4, .inl ks_moI)), (al, .inl (cJ, 64, .inl x.1)), (af, .inl (cJ, 4, .inl x.2.1)), (an, .inl (cJ, 4, .inl x.2.2)), (ak, .inl (cJ, 16, .inl fk)), (ar, .inl (cJ, 16, .inl y2)), (ab, .inl (cJ, 4, .inl ks_begI))] H := hP
                  have hD : va_D A [(h, .inr (2, [.ref ac, .ref au, .ref ab, .ref ae, .ref am, .ref ap, .int sz0, .ref ak, .ref al, .ref af, .ref an, .int (nI (ks_end n + 8)), .ref ar, .int 1])), (ac, .inl (cJ, 64, .inl ks_k)), (au, .inl (cJ, 16, .inl ks_tt)), (ae, .inl (cJ, 4, .inl ks_tmI)), (am, .inl (cJ, 4, .inl ks_moI)), (al, .inl (cJ, 64, .inl x.1)), (af, .inl (cJ, 4, .inl x.2.1)), (an, .inl (cJ, 4, .inl x.2.2)), (ak, .inl (cJ, 16, .inl fk)), (ar, .inl (cJ, 16, .inl y2)), (ab, .inl (cJ, 4, .inl ks_begI))] := hD
                  refine lv_aload_n hx hb dX2_sum_151 rfl (lv_at hl 2 rfl) ?_
                  have hPc := hP.sub (ws' := [(h, .inr (2, [.ref ac, .ref au, .ref ab, .ref ae, .ref am, .ref ap, .int sz0, .ref ak, .ref al, .ref af, .ref an, .int (nI (ks_end n + 8)), .ref ar, .int 1])), (ab, .inl (cJ, 4, .inl ks_begI)), (af, .inl (cJ, 4, .inl x.2.1))]) [0, 10, 6] rfl
                  have hDc := hD.sub (ws' := [(h, .inr (2, [.ref ac, .ref au, .ref ab, .ref ae, .ref am, .ref ap, .int sz0, .ref ak, .ref al, .ref af, .ref an, .int (nI (ks_end n + 8)), .ref ar, .int 1])), (ab, .inl (cJ, 4, .inl ks_begI)), (af, .inl (cJ, 4, .inl x.2.1))]) [0, 10, 6] (by decide) rfl
                  have hKc := hK.sub (tys' := [(cJ, .int)]) [0] rfl
                  have hFc := va_free (wc := [(h, .inr (2, [.ref ac, .ref au, .ref ab, .ref ae, .ref am, .ref ap, .int sz0, .ref ak, .ref al, .ref af, .ref an, .int (nI (ks_end n + 8)), .ref ar, .int 1])), (ab, .inl (cJ, 4, .inl ks_begI)), (af, .inl (cJ, 4, .inl x.2.1))]) hD hS hA [0, 10, 6] rfl
                  refine va_callv (va_runV (As := []) (rest := []) ⟨hx, hb, hml, hown, hts⟩ (r_anew l dC dI H.size h ac au ab ae am ap ak al af an ar cJ sz0 (nI (ks_end n + 8)) 1 ks_begI x.2.1) (cwV 0 hts gX2_sum_X2_anew rfl rfl rfl (by decide +kernel) ⟨Nat.le_of_ble_eq_true rfl, Nat.le_of_ble_eq_true rfl⟩) ⟨fun a U g mk q => by obtain ⟨q0, q1, qP, qK, qD⟩ := q; exact ⟨q0, q1, qP, va_K.moved (u := U) (U := U.calling g mk a) (Vm.Alike.refl U.vm) qK, qD⟩, va_recv hKc hPc (ci := 2) (q0 := 0) rfl rfl, fun U hU hW => ⟨rfl, by rw [hU], by rw [hU]; exact hPc, va_K.moved hW.alike hKc, hDc.weaken (fun _ _ _ _ => trivial)⟩⟩ rfl rfl hl.1 rfl (lv_room (Nat.le_of_ble_eq_true rfl)) dX2_sum_152 ⟨Nat.zero_le _, Nat.zero_le _⟩) hS (fun q _ h => hFc q h) hFc (fun u t H1 locs ht hvm hw hB hz1 hk1 hS => ?_)
                  obtain ⟨hP1, hK1, hD1⟩ := hB
                  rw [ht] at hP1
                  have hK1 := va_K.moved hvm.symm hK1
                  try dsimp only at hw
                  obtain ⟨hP, hD⟩ := va_join (wr := [(ac, .inl (cJ, 64, .inl ks_k)), (au, .inl (cJ, 16, .inl ks_tt)), (ae, .inl (cJ, 4, .inl ks_tmI)), (am, .inl (cJ, 4, .inl ks_moI)), (al, .inl (cJ, 64, .inl x.1)), (an, .inl (cJ, 4, .inl x.2.2)), (ak, .inl (cJ, 16, .inl fk)), (ar, .inl (cJ, 16, .inl y2))]) (w1 := [(h, .inr (2, [.ref ac, .ref au, .ref ab, .ref ae, .ref am, .ref ap, .int sz0, .ref ak, .ref al, .ref af, .ref an, .int (nI 0), .ref ar, .int 1])), (ab, .inl (cJ, 4, .inl ks_begI)), (af, .inl (cJ, 4, .inl u))]) hP hD [0, 10, 6] [1, 2, 3, 4, 5, 7, 8, 9] rfl rfl (by decide) (by decide) hk1 hFc hP1 hD1
                  have hP := hP.sub (ws' := [(h, .inr (2, [.ref ac, .ref au, .ref ab, .ref ae, .ref am, .ref ap, .int sz0, .ref ak, .ref al, .ref af, .ref an, .int (nI 0), .ref ar, .int 1])), (ac, .inl (cJ, 64, .inl ks_k)), (au, .inl (cJ, 16, .inl ks_tt)), (ae, .inl (cJ, 4, .inl ks_tmI)), (am, .inl (cJ, 4, .inl ks_moI)), (al, .inl (cJ, 64, .inl x.1)), (af, .inl (cJ, 4, .inl u)), (an, .inl (cJ, 4, .inl x.2.2)), (ak, .inl (cJ, 16, .inl fk)), (ar, .inl (cJ, 16, .inl y2)), (ab, .inl (cJ, 4, .inl ks_begI))]) [8, 0, 1, 2, 3, 4, 10, 5, 6, 7, 9] rfl
                  have hD := hD.sub (ws' := [(h, .inr (2, [.ref ac, .ref au, .ref ab, .ref ae, .ref am, .ref ap, .int sz0, .ref ak, .ref al, .ref af, .ref an, .int (nI 0), .ref ar, .int 1])), (ac, .inl (cJ, 64, .inl ks_k)), (au, .inl (cJ, 16, .inl ks_tt)), (ae, .inl (cJ, 4, .inl ks_tmI)), (am, .inl (cJ, 4, .inl ks_moI)), (al, .inl (cJ, 64, .inl x.1)), (af, .inl (cJ, 4, .inl u)), (an, .inl (cJ, 4, .inl x.2.2)), (ak, .inl (cJ, 16, .inl fk)), (ar, .inl (cJ, 16, .inl y2)), (ab, .inl (cJ, 4, .inl ks_begI))]) [8, 0, 1, 2, 3, 4, 10, 5, 6, 7, 9] (by decide) rfl
                  generalize H1 = H at hP hS ⊢
                  have hP : va_P (dC, dI) vwCl [(h, .inr (2, [.ref ac, .ref au, .ref ab, .ref ae, .ref am, .ref ap, .int sz0, .ref ak, .ref al, .ref af, .ref an, .int (nI 0), .ref ar, .int 1])), (ac, .inl (cJ, 64, .inl ks_k)), (au, .inl (cJ, 16, .inl ks_tt)), (ae, .inl (cJ, 4, .inl ks_tmI)), (am, .inl (cJ, 4, .inl ks_moI)), (al, .inl (cJ, 64, .inl x.1)), (af, .inl (cJ, 4, .inl u)), (an, .inl (cJ, 4, .inl x.2.2)), (ak, .inl (cJ, 16, .inl fk)), (ar, .inl (cJ, 16, .inl y2)), (ab, .inl (cJ, 4, .inl ks_begI))] H := hP
                  have hD : va_D A [(h, .inr (2, [.ref ac, .ref au, .ref ab, .ref ae, .ref am, .ref ap, .int sz0, .ref ak, .ref al, .ref af, .ref an, .int (nI 0), .ref ar, .int 1])), (ac, .inl (cJ, 64, .inl ks_k)), (au, .inl (cJ, 16, .inl ks_tt)), (ae, .inl (cJ, 4, .inl ks_tmI)), (am, .inl (cJ, 4, .inl ks_moI)), (al, .inl (cJ, 64, .inl x.1)), (af, .inl (cJ, 4, .inl u)), (an, .inl (cJ, 4, .inl x.2.2)), (ak, .inl (cJ, 16, .inl fk)), (ar, .inl (cJ, 16, .inl y2)), (ab, .inl (cJ, 4, .inl ks_begI))] := hD
                  refine lv_iload_n hx hb dX2_sum_155 rfl (lv_at hl 1 rfl) ?_
                  have hP9 := hP.sub (ws' := [(h, .inr (2, [.ref ac, .ref au, .ref ab, .ref ae, .ref am, .ref ap, .int sz0, .ref ak, .ref al, .ref af, .ref an, .int (nI 0), .ref ar, .int 1])), (ac, .inl (cJ, 64, .inl ks_k)), (au, .inl (cJ, 16, .inl ks_tt)), (ae, .inl (cJ, 4, .inl ks_tmI)), (am, .inl (cJ, 4, .inl ks_moI)), (al, .inl (cJ, 64, .inl x.1)), (af, .inl (cJ, 4, .inl u)), (an, .inl (cJ, 4, .inl x.2.2)), (ak, .inl (cJ, 16, .inl fk)), (ar, .inl (cJ, 16, .inl y2)), (ab, .inl (cJ, 4, .inl ks_begI))]) [0, 1, 2, 3, 4, 5, 6, 7, 8, 9, 10] rfl
                  have hD9 := hD.sub (ws' := [(h, .inr (2, [.ref ac, .ref au, .ref ab, .ref ae, .ref am, .ref ap, .int sz0, .ref ak, .ref al, .ref af, .ref an, .int (nI 0), .ref ar, .int 1])), (ac, .inl (cJ, 64, .inl ks_k)), (au, .inl (cJ, 16, .inl ks_tt)), (ae, .inl (cJ, 4, .inl ks_tmI)), (am, .inl (cJ, 4, .inl ks_moI)), (al, .inl (cJ, 64, .inl x.1)), (af, .inl (cJ, 4, .inl u)), (an, .inl (cJ, 4, .inl x.2.2)), (ak, .inl (cJ, 16, .inl fk)), (ar, .inl (cJ, 16, .inl y2)), (ab, .inl (cJ, 4, .inl ks_begI))]) [0, 1, 2, 3, 4, 5, 6, 7, 8, 9, 10] (by decide) rfl
                  have hK9 := hK.sub (tys' := [(cJ, .int)]) [0] rfl
                  exact W.iret (v := (nI n)) hx hb hr (fun t ht hW => ⟨⟨(nI n), (x.1, u, x.2.2, y2), rfl, ⟨rfl, hw, x.2.1, hq, hv2⟩, by rw [ht]; exact hP9, va_K.moved hW.alike hK9, hD9⟩, hS.F ht⟩) hS.2.2 dX2_sum_156
                · skip
                  exact absurd (nI_le (a := 16) (b := 16) (Nat.le_refl _) (by decide)) hc
            · skip
              exact absurd (nI_le (a := 8) (b := 8) (Nat.le_refl _) (by decide)) hc
        · skip
          exact absurd ((nI_eq (a := ks_end n % 64) (b := 56) (by omega) (by decide)).mpr (by unfold ks_end; omega)) hc
    · skip
      exact absurd hz hc
