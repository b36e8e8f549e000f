theorem ks_wrap (n : Nat) : nI (n % 2 ^ 32) = nI n := by
  apply Int32.toBitVec_inj.mp
  show BitVec.ofNat 32 (n % 2 ^ 32) = BitVec.ofNat 32 n
  apply BitVec.eq_of_toNat_eq
  simp
theorem ks_zeros (n : Nat) (hn : n < 2 ^ 30) : (56 - nI (n + 1)) &&& 63 = nI (ks_end n - (n + 1)) := by
  have h0 : (56 : Int32) = nI (2 ^ 32 + 56) := by decide +kernel
  have h1 : (56 : Int32) - nI (n + 1) = nI (2 ^ 32 + 56 - (n + 1)) := by
    rw [h0]
    exact pk_sub (by omega)
  rw [h1, ← ks_wrap (2 ^ 32 + 56 - (n + 1)), pk_andN (Nat.mod_lt _ (by decide)) (m := 63) 6 (by decide)]
  congr 1
  unfold ks_end
  omega
theorem ks_len8 (f : Nat → Int32) {n i : Nat} (hn : 8 * n < 2 ^ 62) (hi : i < 8) : ks_pad f n (ks_end n + i) &&& 255 = (ks_usl (lN (8 * n)) (nI (8 * i))).toInt32 &&& 255 := by
  have he0 : n + 1 ≤ ks_end n := by unfold ks_end; omega
  have h1 : ks_pad f n (ks_end n + i) = nI (8 * n / 256 ^ i % 256) := by
    unfold ks_pad
    rw [if_neg (by omega), if_neg (by omega), if_neg (by omega), show ks_end n + i - ks_end n = i by omega]
  have h2 : ks_usl (lN (8 * n)) (nI (8 * i)) = lN (8 * n / 256 ^ i) := by
    have h3 := wb_shr (n := 8 * n) (k := 8 * i) (by omega) (by omega)
    rw [show (256 : Nat) = 2 ^ 8 from rfl, ← Nat.pow_mul]
    exact h3
  rw [h1, h2, lN_i, ← ks_wrap (8 * n / 256 ^ i), pk_andN (Nat.lt_of_lt_of_le (Nat.mod_lt _ (by decide)) (by decide)) (m := 255) 8 (by decide), pk_andN (Nat.mod_lt _ (by decide)) (m := 255) 8 (by decide)]
  congr 1
  omega
set_option maxHeartbeats 4000000 in
set_option maxRecDepth 100000 in
/-- close: the tail behind the bytes -/
theorem c_close (l : Launch) (dC : Nat → ClassId) (dI : Nat → Nat → Nat) (sz : Nat) (tS tT h w : Nat) (cI : ClassId) (n : Nat) (v : ks_Q) (wd f : Nat → Int32) (hn : n < 2 ^ 28) (hi : ks_inv f n wd v) : Met l yX0_close wsX0_close ({ frames := 3, cells := 0, slots := 0, locals := 100 }) (va_Pc [.ref h] (fun U => U.heap.size = sz ∧ va_P (dC, dI) vwCl [(h, .inr (0, [.ref w, .int (nI n), .int v.1, .int v.2.1, .int v.2.2.1, .int v.2.2.2])), (w, .inl (cI, 16, .inl wd))] U.heap ∧ va_K (dC, dI) vwCl [(cI, .int)] U ∧ va_D (fun _ => True) [(h, .inr (0, [.ref w, .int (nI n), .int v.1, .int v.2.1, .int v.2.2.1, .int v.2.2.2])), (w, .inl (cI, 16, .inl wd))] ∧ ks_tab tS tT (va_A [(h, .inr (0, [.ref w, .int (nI n), .int v.1, .int v.2.1, .int v.2.2.1, .int v.2.2.2])), (w, .inl (cI, 16, .inl wd))] sz) U U.heap)) (va_Qv (fun u : (Nat → Int32) × ks_Q => u.2 = ks_sum f n) (fun (u : (Nat → Int32) × ks_Q) t => kz_B dC dI [(cI, .int)] (va_A [(h, .inr (0, [.ref w, .int (nI n), .int v.1, .int v.2.1, .int v.2.2.1, .int v.2.2.2])), (w, .inl (cI, 16, .inl wd))] sz) [(h, .inr (0, [.ref w, .int (nI (ks_end n + 8)), .int u.2.1, .int u.2.2.1, .int u.2.2.2.1, .int u.2.2.2.2])), (w, .inl (cI, 16, .inl u.1))] t) (va_A [(h, .inr (0, [.ref w, .int (nI n), .int v.1, .int v.2.1, .int v.2.2.1, .int v.2.2.2])), (w, .inl (cI, 16, .inl wd))] sz)) 0 0 (va_A [(h, .inr (0, [.ref w, .int (nI n), .int v.1, .int v.2.1, .int v.2.2.1, .int v.2.2.2])), (w, .inl (cI, 16, .inl wd))] sz) := by
  refine Met.ofW (cc := cX0_close) (maxL := 5) (ret := none) (by decide) rfl ?_
  intro p e s m args below meth c s₁ B hml hv
  obtain ⟨rfl, hsz, hP, hK, hD0, hT⟩ := hv
  have hx := B.exec
  have hb := B.bytes
  have hr := B.returns
  have hts := atoms_spec (ws := wsX0_close) B.pre
  have hown : s.vm.findClass RX0 = some m.cls := findClass_of_methodNamed B.named
  have hlocks := B.notSynchronized
  subst hsz
  have hD := hD0.self (sz := s.heap.size)
  generalize hAe : va_A [(h, .inr (0, [.ref w, .int (nI n), .int v.1, .int v.2.1, .int v.2.2.1, .int v.2.2.2])), (w, .inl (cI, 16, .inl wd))] s.heap.size = A at hD hT ⊢
  have hA : ∀ q : Nat, s.heap.size ≤ q → A q := fun q h => by rw [← hAe]; exact Or.inr h
  have hS : va_S A s.heap s.heap [] := va_S.rf
  have hP : va_P (dC, dI) vwCl [(h, .inr (0, [.ref w, .int (nI n), .int v.1, .int v.2.1, .int v.2.2.1, .int v.2.2.2])), (w, .inl (cI, 16, .inl wd))] s.heap := hP
  have hl := lv_entry ([.ref h]) (n := 5) (Nat.le_of_ble_eq_true rfl)
  rw [lg_entry_eq]
  generalize (lg_sl ([.ref h]) ++ List.replicate (5 - (lg_sl ([.ref h])).length) Slot.unset).toArray = ls at hl ⊢
  have hl : lv_has ls 5 [(0, .ref h)] := hl
  have hi : ks_inv (ks_pad f n) n wd v := ks_inv_8 hi (fun j hj => by rw [show ks_pad f n j = f j from if_pos hj])
  have he0 : n + 1 ≤ ks_end n := by unfold ks_end; omega
  have he1 : ks_end n ≤ n + 64 := by unfold ks_end; omega
  have he2 : ks_end n % 64 = 56 := by unfold ks_end; omega
  refine lv_aload_n hx hb dX0_close_0 rfl (lv_at hl 0 rfl) ?_
  refine va_get (D := (dC, dI)) (ci := 0) (v := .int (nI n)) (C := RX0) (T := TX0) (N := 6) hx hb hts (by decide +kernel) hown hK hP 0 rfl rfl 1 (by decide) (hts (.fieldLink RX0 16 "KeySums$Summer" "count" "I") (by decide +kernel)) (fun _ h9 => h9) rfl dX0_close_1 ?_
  refine lv_i2l (v := lN n) hx hb dX0_close_4 (nI_l (by omega)) ?_
  refine lv_ldc2 (v := (8)) hx hb hown (hts (.constantLong RX0 39 (8)) (by decide +kernel)) dX0_close_5 ?_
  refine lv_lmul hx hb dX0_close_8 ?_
  refine kz_topl (y := lN (8 * n)) (by rw [Nat.mul_comm]; exact lN_mul n 8) ?_
  refine lv_lstore_n (lv' := [(1, .long (lN (8 * n))), (0, .ref h)]) hx hb dX0_close_9 rfl hl (by decide) rfl (fun ls hl => ?_)
  refine lv_aload_n hx hb dX0_close_10 rfl (lv_at hl 1 rfl) ?_
  refine lv_sipush (v := 128) hx hb dX0_close_11 (by decide) ?_
  have hPc := hP.sub (ws' := [(h, .inr (0, [.ref w, .int (nI n), .int v.1, .int v.2.1, .int v.2.2.1, .int v.2.2.2])), (w, .inl (cI, 16, .inl wd))]) [0, 1] rfl
  have hDc := hD.sub (ws' := [(h, .inr (0, [.ref w, .int (nI n), .int v.1, .int v.2.1, .int v.2.2.1, .int v.2.2.2])), (w, .inl (cI, 16, .inl wd))]) [0, 1] (by decide) rfl
  have hKc := hK.sub (tys' := [(cI, .int)]) [0] rfl
  have hFc := va_free (wc := [(h, .inr (0, [.ref w, .int (nI n), .int v.1, .int v.2.1, .int v.2.2.1, .int v.2.2.2])), (w, .inl (cI, 16, .inl wd))]) hD hS hA [0, 1] rfl
  refine va_callv (va_runV (As := [.int 128]) (rest := []) ⟨hx, hb, hml, hown, hts⟩ (c_take l dC dI s.heap.size tS tT h w cI n v wd (ks_pad f n) 128 (by omega) hi (by rw [show ks_pad f n n = 128 by unfold ks_pad; rw [if_neg (Nat.lt_irrefl n), if_pos rfl]])) (cwV 1 hts gX0_close_X0_take rfl rfl rfl (by decide +kernel) ⟨Nat.le_of_ble_eq_true rfl, Nat.le_of_ble_eq_true rfl⟩) ⟨fun a U g mk q => by obtain ⟨q0, q1, qP, qK, qD, qx0⟩ := q; exact ⟨q0, q1, qP, va_K.moved (u := U) (U := U.calling g mk a) (Vm.Alike.refl U.vm) qK, qD, ks_tab.moved (u := U) (U := U.calling g mk a) (Vm.Alike.refl U.vm) qx0⟩, va_recv hKc hPc (ci := 0) (q0 := 0) rfl rfl, fun U hU hW => ⟨rfl, by rw [hU], by rw [hU]; exact hPc, va_K.moved hW.alike hKc, hDc.weaken (fun _ _ _ _ => trivial), hT.call hS hFc hU hW.alike⟩⟩ rfl rfl hl.1 rfl (lv_room (Nat.le_of_ble_eq_true rfl)) dX0_close_14 ⟨Nat.zero_le _, Nat.zero_le _⟩) hS (fun q _ h => hFc q h) hFc (fun u t H1 locs ht hvm hw hB hz1 hk1 hS => ?_)
  obtain ⟨wd1, v1⟩ := u
  obtain ⟨hP1, hK1, hD1⟩ := hB
  rw [ht] at hP1
  have hK1 := va_K.moved hvm.symm hK1
  try dsimp only at hw
  obtain ⟨hP, hD⟩ := va_join (wr := []) (w1 := [(h, .inr (0, [.ref w, .int (nI (n + 1)), .int v1.1, .int v1.2.1, .int v1.2.2.1, .int v1.2.2.2])), (w, .inl (cI, 16, .inl wd1))]) hP hD [0, 1] [] rfl rfl (by decide) (by decide) hk1 hFc hP1 hD1
  have hP := hP.sub (ws' := [(h, .inr (0, [.ref w, .int (nI (n + 1)), .int v1.1, .int v1.2.1, .int v1.2.2.1, .int v1.2.2.2])), (w, .inl (cI, 16, .inl wd1))]) [0, 1] rfl
  have hD := hD.sub (ws' := [(h, .inr (0, [.ref w, .int (nI (n + 1)), .int v1.1, .int v1.2.1, .int v1.2.2.1, .int v1.2.2.2])), (w, .inl (cI, 16, .inl wd1))]) [0, 1] (by decide) rfl
  generalize H1 = H at hP hS ⊢
  have hP : va_P (dC, dI) vwCl [(h, .inr (0, [.ref w, .int (nI (n + 1)), .int v1.1, .int v1.2.1, .int v1.2.2.1, .int v1.2.2.2])), (w, .inl (cI, 16, .inl wd1))] H := hP
  have hD : va_D A [(h, .inr (0, [.ref w, .int (nI (n + 1)), .int v1.1, .int v1.2.1, .int v1.2.2.1, .int v1.2.2.2])), (w, .inl (cI, 16, .inl wd1))] := hD
  refine lv_bipush (v := 56) hx hb dX0_close_17 (by decide) ?_
  refine lv_aload_n hx hb dX0_close_19 rfl (lv_at hl 1 rfl) ?_
  refine va_get (D := (dC, dI)) (ci := 0) (v := .int (nI (n + 1))) (C := RX0) (T := TX0) (N := 6) hx hb hts (by decide +kernel) hown hK hP 0 rfl rfl 1 (by decide) (hts (.fieldLink RX0 16 "KeySums$Summer" "count" "I") (by decide +kernel)) (fun _ h9 => h9) rfl dX0_close_20 ?_
  refine lv_isub hx hb dX0_close_23 ?_
  refine lv_bipush (v := 63) hx hb dX0_close_24 (by decide) ?_
  refine lv_iand hx hb dX0_close_26 ?_
  refine kz_top (y := nI (ks_end n - (n + 1))) (ks_zeros n (by omega)) ?_
  refine lv_istore_n (lv' := [(3, .int (nI (ks_end n - (n + 1)))), (1, .long (lN (8 * n))), (0, .ref h)]) hx hb dX0_close_27 rfl hl (by decide) rfl (fun ls hl => ?_)
  refine lv_iconst (v := 0) hx hb dX0_close_28 (by decide) ?_
  refine kz_top (y := nI 0) nI_0.symm ?_
  refine lv_istore (lv' := [(4, .int (nI 0)), (3, .int (nI (ks_end n - (n + 1)))), (1, .long (lN (8 * n))), (0, .ref h)]) hx hb dX0_close_29 hl (by decide) rfl (fun ls hl => ?_)
  refine kz_loop (σ := (Nat → Int32) × ks_Q) (fun i x ls H locs => ks_inv (ks_pad f n) (n + 1 + i) x.1 x.2 ∧ lv_has ls 5 [(4, .int (nI i)), (3, .int (nI (ks_end n - (n + 1)))), (1, .long (lN (8 * n))), (0, .ref h)] ∧ va_P (dC, dI) vwCl [(h, .inr (0, [.ref w, .int (nI (n + 1 + i)), .int x.2.1, .int x.2.2.1, .int x.2.2.2.1, .int x.2.2.2.2])), (w, .inl (cI, 16, .inl x.1))] H ∧ va_D A [(h, .inr (0, [.ref w, .int (nI (n + 1 + i)), .int x.2.1, .int x.2.2.1, .int x.2.2.2.1, .int x.2.2.2.2])), (w, .inl (cI, 16, .inl x.1))] ∧ va_S A s.heap H locs) (ks_end n - (n + 1)) ?_ ?_ 0 (wd1, v1) ls _ _ (Nat.zero_le _) ⟨hw, hl, hP, hD, hS⟩
  · skip
    intro i x ls H locs hlt hI ih
    obtain ⟨hv, hl, hP, hD, hS⟩ := hI
    refine lv_iload hx hb dX0_close_31 (lv_at hl 0 rfl) ?_
    refine lv_iload_n hx hb dX0_close_33 rfl (lv_at hl 1 rfl) ?_
    refine lv_icmp_ge (tgt := 48) hx hb dX0_close_34 (by decide) (fun hc => ?_) (fun hc => ?_)
    · skip
      exact absurd hc (nI_ge hlt (by omega))
    · skip
      refine lv_aload_n hx hb dX0_close_37 rfl (lv_at hl 3 rfl) ?_
      refine lv_iconst (v := 0) hx hb dX0_close_38 (by decide) ?_
      have hPc := hP.sub (ws' := [(h, .inr (0, [.ref w, .int (nI (n + 1 + i)), .int x.2.1, .int x.2.2.1, .int x.2.2.2.1, .int x.2.2.2.2])), (w, .inl (cI, 16, .inl x.1))]) [0, 1] rfl
      have hDc := hD.sub (ws' := [(h, .inr (0, [.ref w, .int (nI (n + 1 + i)), .int x.2.1, .int x.2.2.1, .int x.2.2.2.1, .int x.2.2.2.2])), (w, .inl (cI, 16, .inl x.1))]) [0, 1] (by decide) rfl
      have hKc := hK.sub (tys' := [(cI, .int)]) [0] rfl
      have hFc := va_free (wc := [(h, .inr (0, [.ref w, .int (nI (n + 1 + i)), .int x.2.1, .int x.2.2.1, .int x.2.2.2.1, .int x.2.2.2.2])), (w, .inl (cI, 16, .inl x.1))]) hD hS hA [0, 1] rfl
      refine va_callv (va_runV (As := [.int 0]) (rest := []) ⟨hx, hb, hml, hown, hts⟩ (c_take l dC dI H.size tS tT h w cI (n + 1 + i) x.2 x.1 (ks_pad f n) 0 (by omega) hv (by rw [show ks_pad f n (n + 1 + i) = 0 by unfold ks_pad; rw [if_neg (by omega), if_neg (by omega), if_pos (by omega)]])) (cwV 1 hts gX0_close_X0_take rfl rfl rfl (by decide +kernel) ⟨Nat.le_of_ble_eq_true rfl, Nat.le_of_ble_eq_true rfl⟩) ⟨fun a U g mk q => by obtain ⟨q0, q1, qP, qK, qD, qx0⟩ := q; exact ⟨q0, q1, qP, va_K.moved (u := U) (U := U.calling g mk a) (Vm.Alike.refl U.vm) qK, qD, ks_tab.moved (u := U) (U := U.calling g mk a) (Vm.Alike.refl U.vm) qx0⟩, va_recv hKc hPc (ci := 0) (q0 := 0) rfl rfl, fun U hU hW => ⟨rfl, by rw [hU], by rw [hU]; exact hPc, va_K.moved hW.alike hKc, hDc.weaken (fun _ _ _ _ => trivial), hT.call hS hFc hU hW.alike⟩⟩ rfl rfl hl.1 rfl (lv_room (Nat.le_of_ble_eq_true rfl)) dX0_close_39 ⟨Nat.zero_le _, Nat.zero_le _⟩) hS (fun q _ h => hFc q h) hFc (fun u t H1 locs ht hvm hw hB hz1 hk1 hS => ?_)
      obtain ⟨wd2, v2⟩ := u
      obtain ⟨hP1, hK1, hD1⟩ := hB
      rw [ht] at hP1
      have hK1 := va_K.moved hvm.symm hK1
      try dsimp only at hw
      obtain ⟨hP, hD⟩ := va_join (wr := []) (w1 := [(h, .inr (0, [.ref w, .int (nI (n + 1 + i + 1)), .int v2.1, .int v2.2.1, .int v2.2.2.1, .int v2.2.2.2])), (w, .inl (cI, 16, .inl wd2))]) hP hD [0, 1] [] rfl rfl (by decide) (by decide) hk1 hFc hP1 hD1
      have hP := hP.sub (ws' := [(h, .inr (0, [.ref w, .int (nI (n + 1 + i + 1)), .int v2.1, .int v2.2.1, .int v2.2.2.1, .int v2.2.2.2])), (w, .inl (cI, 16, .inl wd2))]) [0, 1] rfl
      have hD := hD.sub (ws' := [(h, .inr (0, [.ref w, .int (nI (n + 1 + i + 1)), .int v2.1, .int v2.2.1, .int v2.2.2.1, .int v2.2.2.2])), (w, .inl (cI, 16, .inl wd2))]) [0, 1] (by decide) rfl
      generalize H1 = H at hP hS ⊢
      have hP : va_P (dC, dI) vwCl [(h, .inr (0, [.ref w, .int (nI (n + 1 + i + 1)), .int v2.1, .int v2.2.1, .int v2.2.2.1, .int v2.2.2.2])), (w, .inl (cI, 16, .inl wd2))] H := hP
      have hD : va_D A [(h, .inr (0, [.ref w, .int (nI (n + 1 + i + 1)), .int v2.1, .int v2.2.1, .int v2.2.2.1, .int v2.2.2.2])), (w, .inl (cI, 16, .inl wd2))] := hD
      refine lv_iinc (v := nI (i + 1)) (lv' := [(4, .int (nI (i + 1))), (3, .int (nI (ks_end n - (n + 1)))), (1, .long (lN (8 * n))), (0, .ref h)]) hx hb dX0_close_42 hl (k := 0) rfl (nI_1 i) (by decide) rfl (fun ls hl => ?_)
      refine lv_goto (tgt := 31) hx hb dX0_close_45 (by decide) ?_
      exact ih (wd2, v2) ls H locs ⟨hw, lv_sub hl [0, 1, 2, 3] rfl, hP, hD, hS⟩
  · skip
    intro x ls H locs hI
    obtain ⟨hv, hl, hP, hD, hS⟩ := hI
    refine lv_iload hx hb dX0_close_31 (lv_at hl 0 rfl) ?_
    refine lv_iload_n hx hb dX0_close_33 rfl (lv_at hl 1 rfl) ?_
    refine lv_icmp_ge (tgt := 48) hx hb dX0_close_34 (by decide) (fun hc => ?_) (fun hc => ?_)
    · skip
      rw [show n + 1 + (ks_end n - (n + 1)) = ks_end n by omega] at hv hP hD
      refine lv_iconst (v := 0) hx hb dX0_close_48 (by decide) ?_
      refine kz_top (y := nI 0) nI_0.symm ?_
      refine lv_istore (lv' := [(4, .int (nI 0)), (3, .int (nI (ks_end n - (n + 1)))), (1, .long (lN (8 * n))), (0, .ref h)]) hx hb dX0_close_49 hl (by decide) rfl (fun ls hl => ?_)
      refine kz_loop (σ := (Nat → Int32) × ks_Q) (fun i x ls H locs => ks_inv (ks_pad f n) (ks_end n + i) x.1 x.2 ∧ lv_has ls 5 [(4, .int (nI i)), (3, .int (nI (ks_end n - (n + 1)))), (1, .long (lN (8 * n))), (0, .ref h)] ∧ va_P (dC, dI) vwCl [(h, .inr (0, [.ref w, .int (nI (ks_end n + i)), .int x.2.1, .int x.2.2.1, .int x.2.2.2.1, .int x.2.2.2.2])), (w, .inl (cI, 16, .inl x.1))] H ∧ va_D A [(h, .inr (0, [.ref w, .int (nI (ks_end n + i)), .int x.2.1, .int x.2.2.1, .int x.2.2.2.1, .int x.2.2.2.2])), (w, .inl (cI, 16, .inl x.1))] ∧ va_S A s.heap H locs) 8 ?_ ?_ 0 x ls _ _ (Nat.zero_le _) ⟨hv, hl, hP, hD, hS⟩
      · skip
        intro i x ls H locs hlt hI ih
        obtain ⟨hv, hl, hP, hD, hS⟩ := hI
        refine lv_iload hx hb dX0_close_51 (lv_at hl 0 rfl) ?_
        refine lv_bipush (v := 8) hx hb dX0_close_53 (by decide) ?_
        refine lv_icmp_ge (tgt := 76) hx hb dX0_close_55 (by decide) (fun hc => ?_) (fun hc => ?_)
        · skip
          exact absurd hc (nI_ge (a := i) (b := 8) hlt (by decide))
        · skip
          refine lv_aload_n hx hb dX0_close_58 rfl (lv_at hl 3 rfl) ?_
          refine lv_lload_n hx hb dX0_close_59 rfl (lv_at hl 2 rfl) ?_
          refine lv_bipush (v := 8) hx hb dX0_close_60 (by decide) ?_
          refine lv_iload hx hb dX0_close_62 (lv_at hl 0 rfl) ?_
          refine lv_imul hx hb dX0_close_64 ?_
          refine kz_top (y := nI (8 * i)) (pk_mul 8 i) ?_
          refine lv_lushr (v := ks_usl (lN (8 * n)) (nI (8 * i))) hx hb dX0_close_65 rfl ?_
          refine lv_l2i (v := (ks_usl (lN (8 * n)) (nI (8 * i))).toInt32) hx hb dX0_close_66 rfl ?_
          have hPc := hP.sub (ws' := [(h, .inr (0, [.ref w, .int (nI (ks_end n + i)), .int x.2.1, .int x.2.2.1, .int x.2.2.2.1, .int x.2.2.2.2])), (w, .inl (cI, 16, .inl x.1))]) [0, 1] rfl
          have hDc := hD.sub (ws' := [(h, .inr (0, [.ref w, .int (nI (ks_end n + i)), .int x.2.1, .int x.2.2.1, .int x.2.2.2.1, .int x.2.2.2.2])), (w, .inl (cI, 16, .inl x.1))]) [0, 1] (by decide) rfl
          have hKc := hK.sub (tys' := [(cI, .int)]) [0] rfl
          have hFc := va_free (wc := [(h, .inr (0, [.ref w, .int (nI (ks_end n + i)), .int x.2.1, .int x.2.2.1, .int x.2.2.2.1, .int x.2.2.2.2])), (w, .inl (cI, 16, .inl x.1))]) hD hS hA [0, 1] rfl
          refine va_callv (va_runV (As := [.int ((ks_usl (lN (8 * n)) (nI (8 * i))).toInt32)]) (rest := []) ⟨hx, hb, hml, hown, hts⟩ (c_take l dC dI H.size tS tT h w cI (ks_end n + i) x.2 x.1 (ks_pad f n) ((ks_usl (lN (8 * n)) (nI (8 * i))).toInt32) (by omega) hv (ks_len8 f (by omega) hlt)) (cwV 1 hts gX0_close_X0_take rfl rfl rfl (by decide +kernel) ⟨Nat.le_of_ble_eq_true rfl, Nat.le_of_ble_eq_true rfl⟩) ⟨fun a U g mk q => by obtain ⟨q0, q1, qP, qK, qD, qx0⟩ := q; exact ⟨q0, q1, qP, va_K.moved (u := U) (U := U.calling g mk a) (Vm.Alike.refl U.vm) qK, qD, ks_tab.moved (u := U) (U := U.calling g mk a) (Vm.Alike.refl U.vm) qx0⟩, va_recv hKc hPc (ci := 0) (q0 := 0) rfl rfl, fun U hU hW => ⟨rfl, by rw [hU], by rw [hU]; exact hPc, va_K.moved hW.alike hKc, hDc.weaken (fun _ _ _ _ => trivial), hT.call hS hFc hU hW.alike⟩⟩ rfl rfl hl.1 rfl (lv_room (Nat.le_of_ble_eq_true rfl)) dX0_close_67 ⟨Nat.zero_le _, Nat.zero_le _⟩) hS (fun q _ h => hFc q h) hFc (fun u t H1 locs ht hvm hw hB hz1 hk1 hS => ?_)
          obtain ⟨wd2, v2⟩ := u
          obtain ⟨hP1, hK1, hD1⟩ := hB
          rw [ht] at hP1
          have hK1 := va_K.moved hvm.symm hK1
          try dsimp only at hw
          obtain ⟨hP, hD⟩ := va_join (wr := []) (w1 := [(h, .inr (0, [.ref w, .int (nI (ks_end n + i + 1)), .int v2.1, .int v2.2.1, .int v2.2.2.1, .int v2.2.2.2])), (w, .inl (cI, 16, .inl wd2))]) hP hD [0, 1] [] rfl rfl (by decide) (by decide) hk1 hFc hP1 hD1
          have hP := hP.sub (ws' := [(h, .inr (0, [.ref w, .int (nI (ks_end n + i + 1)), .int v2.1, .int v2.2.1, .int v2.2.2.1, .int v2.2.2.2])), (w, .inl (cI, 16, .inl wd2))]) [0, 1] rfl
          have hD := hD.sub (ws' := [(h, .inr (0, [.ref w, .int (nI (ks_end n + i + 1)), .int v2.1, .int v2.2.1, .int v2.2.2.1, .int v2.2.2.2])), (w, .inl (cI, 16, .inl wd2))]) [0, 1] (by decide) rfl
          generalize H1 = H at hP hS ⊢
          have hP : va_P (dC, dI) vwCl [(h, .inr (0, [.ref w, .int (nI (ks_end n + i + 1)), .int v2.1, .int v2.2.1, .int v2.2.2.1, .int v2.2.2.2])), (w, .inl (cI, 16, .inl wd2))] H := hP
          have hD : va_D A [(h, .inr (0, [.ref w, .int (nI (ks_end n + i + 1)), .int v2.1, .int v2.2.1, .int v2.2.2.1, .int v2.2.2.2])), (w, .inl (cI, 16, .inl wd2))] := hD
          refine lv_iinc (v := nI (i + 1)) (lv' := [(4, .int (nI (i + 1))), (3, .int (nI (ks_end n - (n + 1)))), (1, .long (lN (8 * n))), (0, .ref h)]) hx hb dX0_close_70 hl (k := 0) rfl (nI_1 i) (by decide) rfl (fun ls hl => ?_)
          refine lv_goto (tgt := 51) hx hb dX0_close_73 (by decide) ?_
          exact ih (wd2, v2) ls H locs ⟨hw, lv_sub hl [0, 1, 2, 3] rfl, hP, hD, hS⟩
      · skip
        intro x ls H locs hI
        obtain ⟨hv, hl, hP, hD, hS⟩ := hI
        refine lv_iload hx hb dX0_close_51 (lv_at hl 0 rfl) ?_
        refine lv_bipush (v := 8) hx hb dX0_close_53 (by decide) ?_
        refine lv_icmp_ge (tgt := 76) hx hb dX0_close_55 (by decide) (fun hc => ?_) (fun hc => ?_)
        · skip
          have hq : x.2 = ks_sum f n := by
            rw [hv.1, show (ks_end n + 8) / 64 = (n + 8) / 64 + 1 by unfold ks_end; omega]
            rfl
          have hP9 := hP.sub (ws' := [(h, .inr (0, [.ref w, .int (nI (ks_end n + 8)), .int x.2.1, .int x.2.2.1, .int x.2.2.2.1, .int x.2.2.2.2])), (w, .inl (cI, 16, .inl x.1))]) [0, 1] rfl
          have hD9 := hD.sub (ws' := [(h, .inr (0, [.ref w, .int (nI (ks_end n + 8)), .int x.2.1, .int x.2.2.1, .int x.2.2.2.1, .int x.2.2.2.2])), (w, .inl (cI, 16, .inl x.1))]) [0, 1] (by decide) rfl
          have hK9 := hK.sub (tys' := [(cI, .int)]) [0] rfl
          exact W.vret hx hb hr (fun t ht hW => ⟨⟨x, rfl, hq, by rw [ht]; exact hP9, va_K.moved hW.alike hK9, hD9⟩, hS.F ht⟩) hS.2.2 dX0_close_76
        · skip
          exact absurd (nI_le (a := 8) (b := 8) (Nat.le_refl _) (by decide)) hc
    · skip
      exact absurd (nI_le (Nat.le_refl _) (by omega)) hc
