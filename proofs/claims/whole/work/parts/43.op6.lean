set_option maxHeartbeats 4000000 in
set_option maxRecDepth 100000 in
/-- sumAt -/
theorem law_op6 {p : Program} {l : Launch} {e : Env} {s : State} {m : MethodId} {below : List Frame} {meth : Method} {c : Code} {dC : Nat → ClassId} {dI : Nat → Nat → Nat} {b L : Nat} {xs : Nat → Int32} (hL : L ≤ 3072) (C0 : lw_At p s m meth c b L xs) {tS tT x0 qt qk qs qw qm y0 ac au ab ae am ap ak al af an ar : Nat} {cT cK cW cM cJ : ClassId} (hT : ks_tab tS tT (fun q : Nat => s.heap.size ≤ q) s s.heap) (hN : ks_nw s) (hK : va_K (dC, dI) vwCl [(cT, .byte), (cK, .byte), (cW, .int), (cM, .int), (cJ, .int)] s) {i : Nat} (hi : 6 * i + 6 ≤ L) (K : ∀ (ls : Array Slot) (H : Heap) (locs : List Loc), lw_I dC dI s b x0 qt qk qs qw qm y0 ac au ab ae am ap ak al af an ar cT cK cW cM cJ (i + 1) ls H locs → W p l e room_1 s m #[Value.ref b] below meth c H locs 18 4258 (lw_Z below #[Value.ref b] s) (F0 m 18 ls [])) {tn n : Nat} {hs : Int32} {v : ks_Q} {ft fk wd fs rt rk bl fr fn rs f : Nat → Int32} (hr : ks_rel i tn n hs v ft fk wd fs rt rk bl fr rs f) {H : Heap} {locs : List Loc} {ls : Array Slot} (hl : lv_has ls 4 [(3, .int (nI (6 * i))), (2, .ref y0), (1, .ref x0), (0, .ref b)]) (hP : va_P (dC, dI) vwCl [(x0, .inr (1, [.ref qt, .int (nI tn), .ref qk, .ref qs, .ref qm, .int hs])), (qt, .inl (cT, 2000, .inl ft)), (qk, .inl (cK, 16, .inl fk)), (qs, .inr (0, [.ref qw, .int (nI n), .int v.1, .int v.2.1, .int v.2.2.1, .int v.2.2.2])), (qw, .inl (cW, 16, .inl wd)), (qm, .inl (cM, 4, .inl fs)), (y0, .inr (2, [.ref ac, .ref au, .ref ab, .ref ae, .ref am, .ref ap, .int (nI tn), .ref ak, .ref al, .ref af, .ref an, .int (nI n), .ref ar, .int hs])), (ac, .inl (cJ, 64, .inl ks_k)), (au, .inl (cJ, 16, .inl ks_tt)), (ab, .inl (cJ, 4, .inl ks_begI)), (ae, .inl (cJ, 4, .inl ks_tmI)), (am, .inl (cJ, 4, .inl ks_moI)), (ap, .inl (cJ, 2000, .inl rt)), (ak, .inl (cJ, 16, .inl rk)), (al, .inl (cJ, 64, .inl bl)), (af, .inl (cJ, 4, .inl fr)), (an, .inl (cJ, 4, .inl fn)), (ar, .inl (cJ, 16, .inl rs))] H) (hD : va_D (fun q : Nat => s.heap.size ≤ q) [(x0, .inr (1, [.ref qt, .int (nI tn), .ref qk, .ref qs, .ref qm, .int hs])), (qt, .inl (cT, 2000, .inl ft)), (qk, .inl (cK, 16, .inl fk)), (qs, .inr (0, [.ref qw, .int (nI n), .int v.1, .int v.2.1, .int v.2.2.1, .int v.2.2.2])), (qw, .inl (cW, 16, .inl wd)), (qm, .inl (cM, 4, .inl fs)), (y0, .inr (2, [.ref ac, .ref au, .ref ab, .ref ae, .ref am, .ref ap, .int (nI tn), .ref ak, .ref al, .ref af, .ref an, .int (nI n), .ref ar, .int hs])), (ac, .inl (cJ, 64, .inl ks_k)), (au, .inl (cJ, 16, .inl ks_tt)), (ab, .inl (cJ, 4, .inl ks_begI)), (ae, .inl (cJ, 4, .inl ks_tmI)), (am, .inl (cJ, 4, .inl ks_moI)), (ap, .inl (cJ, 2000, .inl rt)), (ak, .inl (cJ, 16, .inl rk)), (al, .inl (cJ, 64, .inl bl)), (af, .inl (cJ, 4, .inl fr)), (an, .inl (cJ, 4, .inl fn)), (ar, .inl (cJ, 16, .inl rs))]) (hS : va_S (fun q : Nat => s.heap.size ≤ q) s.heap H locs) : W p l e room_1 s m #[Value.ref b] below meth c H locs 18 4258 (lw_Z below #[Value.ref b] s) (F0 m 260 ls []) := by
  obtain ⟨hx, hb, hret, hml, hown, hts, hX, hbl, hlocks, hgv⟩ := C0
  have hown : s.vm.findClass RL = some m.cls := hown
  have hA : ∀ q : Nat, s.heap.size ≤ q → (fun q : Nat => s.heap.size ≤ q) q := fun _ h => h
  have hbA : ¬ (fun q : Nat => s.heap.size ≤ q) b := Nat.not_le.mpr hbl
  obtain ⟨r1, r2, r3, r4, r5, r6, r7⟩ := hr
  by_cases hq : hs = 0 ∨ xs (6 * i + 1) < 0 ∨ 16 ≤ xs (6 * i + 1)
  · skip
    refine lv_aload_n hx hb dL_law_260 rfl (lv_at hl 2 rfl) ?_
    refine lv_aload_n hx hb dL_law_261 rfl (lv_at hl 3 rfl) ?_
    refine lv_iload_n hx hb dL_law_262 rfl (lv_at hl 0 rfl) ?_
    refine lv_iconst (v := 1) hx hb dL_law_263 (by decide) ?_
    refine lv_iadd hx hb dL_law_264 ?_
    refine kz_top (y := nI (6 * i + 1)) (nI_add (6 * i) 1) ?_
    refine kz_sld (j := (6 * i + 1)) hx hb hX hbl hbA hS (show (6 * i + 1) < L by omega) (by omega) dL_law_265 ?_
    have hPc := hP.sub (ws' := [(x0, .inr (1, [.ref qt, .int (nI tn), .ref qk, .ref qs, .ref qm, .int hs])), (qm, .inl (cM, 4, .inl fs))]) [0, 5] rfl
    have hDc := hD.sub (ws' := [(x0, .inr (1, [.ref qt, .int (nI tn), .ref qk, .ref qs, .ref qm, .int hs])), (qm, .inl (cM, 4, .inl fs))]) [0, 5] (by decide) rfl
    have hKc := hK.sub (tys' := [(cM, .int)]) [3] rfl
    have hFc := va_free (wc := [(x0, .inr (1, [.ref qt, .int (nI tn), .ref qk, .ref qs, .ref qm, .int hs])), (qm, .inl (cM, 4, .inl fs))]) hD hS hA [0, 5] rfl
    refine vp_callSi (va_runV (As := [.int (xs (6 * i + 1))]) (rest := []) ⟨hx, hb, hml, hown, hts⟩ (c_sumAt_no l dC dI H.size x0 qt qk qs qm cM (nI tn) hs fs (xs (6 * i + 1)) hq) (cwV 1 hts gL_law_X1_sumAt rfl rfl rfl (by decide +kernel) ⟨Nat.le_of_ble_eq_true rfl, Nat.le_of_ble_eq_true rfl⟩) ⟨fun a U g mk q => by obtain ⟨q0, q1, qP, qK, qD⟩ := q; exact ⟨q0, q1, qP, va_K.moved (u := U) (U := U.calling g mk a) (Vm.Alike.refl U.vm) qK, qD⟩, va_recv hKc hPc (ci := 1) (q0 := 0) rfl rfl, fun U hU hW => ⟨rfl, by rw [hU], by rw [hU]; exact hPc, va_K.moved hW.alike hKc, hDc.weaken (fun _ _ _ _ => trivial)⟩⟩ rfl rfl hl.1 rfl (lv_room (Nat.le_of_ble_eq_true rfl)) dL_law_266 ⟨Nat.le_of_ble_eq_true rfl, Nat.le_of_ble_eq_true rfl⟩).run (fun r hw => ?_)
    subst hw
    refine lv_aload_n hx hb dL_law_269 rfl (lv_at hl 1 rfl) ?_
    refine lv_aload_n hx hb dL_law_270 rfl (lv_at hl 3 rfl) ?_
    refine lv_iload_n hx hb dL_law_271 rfl (lv_at hl 0 rfl) ?_
    refine lv_iconst (v := 1) hx hb dL_law_272 (by decide) ?_
    refine lv_iadd hx hb dL_law_273 ?_
    refine kz_top (y := nI (6 * i + 1)) (nI_add (6 * i) 1) ?_
    refine kz_sld (j := (6 * i + 1)) hx hb hX hbl hbA hS (show (6 * i + 1) < L by omega) (by omega) dL_law_274 ?_
    have hPc := hP.sub (ws' := [(y0, .inr (2, [.ref ac, .ref au, .ref ab, .ref ae, .ref am, .ref ap, .int (nI tn), .ref ak, .ref al, .ref af, .ref an, .int (nI n), .ref ar, .int hs])), (ar, .inl (cJ, 16, .inl rs))]) [6, 17] rfl
    have hDc := hD.sub (ws' := [(y0, .inr (2, [.ref ac, .ref au, .ref ab, .ref ae, .ref am, .ref ap, .int (nI tn), .ref ak, .ref al, .ref af, .ref an, .int (nI n), .ref ar, .int hs])), (ar, .inl (cJ, 16, .inl rs))]) [6, 17] (by decide) rfl
    have hKc := hK.sub (tys' := [(cJ, .int)]) [4] rfl
    have hFc := va_free (wc := [(y0, .inr (2, [.ref ac, .ref au, .ref ab, .ref ae, .ref am, .ref ap, .int (nI tn), .ref ak, .ref al, .ref af, .ref an, .int (nI n), .ref ar, .int hs])), (ar, .inl (cJ, 16, .inl rs))]) hD hS hA [6, 17] rfl
    refine vp_callSi (va_runV (As := [.int (xs (6 * i + 1))]) (rest := [.int (-1)]) ⟨hx, hb, hml, hown, hts⟩ (r_sumAt_no l dC dI H.size y0 ac au ab ae am ap ak al af an ar cJ (nI tn) (nI n) hs rs (xs (6 * i + 1)) hq) (cwV 1 hts gL_law_X2_sumAt rfl rfl rfl (by decide +kernel) ⟨Nat.le_of_ble_eq_true rfl, Nat.le_of_ble_eq_true rfl⟩) ⟨fun a U g mk q => by obtain ⟨q0, q1, qP, qK, qD⟩ := q; exact ⟨q0, q1, qP, va_K.moved (u := U) (U := U.calling g mk a) (Vm.Alike.refl U.vm) qK, qD⟩, va_recv hKc hPc (ci := 2) (q0 := 0) rfl rfl, fun U hU hW => ⟨rfl, by rw [hU], by rw [hU]; exact hPc, va_K.moved hW.alike hKc, hDc.weaken (fun _ _ _ _ => trivial)⟩⟩ rfl rfl hl.1 rfl (lv_room (Nat.le_of_ble_eq_true rfl)) dL_law_275 ⟨Nat.le_of_ble_eq_true rfl, Nat.le_of_ble_eq_true rfl⟩).run (fun r hw => ?_)
    subst hw
    refine lv_icmp_eq (tgt := 283) hx hb dL_law_278 (by decide) (fun hc => ?_) (fun hc => ?_)
    · skip
      refine lv_iinc (v := nI (6 * (i + 1))) (lv' := [(3, .int (nI (6 * (i + 1)))), (2, .ref y0), (1, .ref x0), (0, .ref b)]) hx hb dL_law_283 hl (k := 0) rfl (by rw [Nat.mul_succ]; exact nI_add (6 * i) 6) (by decide) rfl (fun ls hl => ?_)
      refine lv_goto (tgt := 18) hx hb dL_law_286 (by decide) ?_
      exact K ls H locs ⟨tn, n, hs, v, ft, fk, wd, fs, rt, rk, bl, fr, fn, rs, f, ⟨r1, r2, r3, r4, r5, by omega, r7⟩, lv_sub hl [0, 1, 2, 3] rfl, hP, hD, hS⟩
    · skip
      exact absurd rfl hc
  · skip
    obtain ⟨k, hk1, hk2⟩ := nI_of (fun q => hq (Or.inr (Or.inl q)))
    have hk3 : k < 16 := by
      rcases Nat.lt_or_ge k 16 with q | q
      · exact q
      · exact absurd (Or.inr (Or.inr (by rw [hk2]; exact nI_le (a := 16) q hk1))) hq
    obtain ⟨r8, r9⟩ := r7.resolve_left (fun q => hq (Or.inl q))
    subst r8
    refine lv_aload_n hx hb dL_law_260 rfl (lv_at hl 2 rfl) ?_
    refine lv_aload_n hx hb dL_law_261 rfl (lv_at hl 3 rfl) ?_
    refine lv_iload_n hx hb dL_law_262 rfl (lv_at hl 0 rfl) ?_
    refine lv_iconst (v := 1) hx hb dL_law_263 (by decide) ?_
    refine lv_iadd hx hb dL_law_264 ?_
    refine kz_top (y := nI (6 * i + 1)) (nI_add (6 * i) 1) ?_
    refine kz_sld (j := (6 * i + 1)) hx hb hX hbl hbA hS (show (6 * i + 1) < L by omega) (by omega) dL_law_265 ?_
    refine kz_top (y := nI k) hk2 ?_
    have hPc := hP.sub (ws' := [(x0, .inr (1, [.ref qt, .int (nI tn), .ref qk, .ref qs, .ref qm, .int 1])), (qm, .inl (cM, 4, .inl fs))]) [0, 5] rfl
    have hDc := hD.sub (ws' := [(x0, .inr (1, [.ref qt, .int (nI tn), .ref qk, .ref qs, .ref qm, .int 1])), (qm, .inl (cM, 4, .inl fs))]) [0, 5] (by decide) rfl
    have hKc := hK.sub (tys' := [(cM, .int)]) [3] rfl
    have hFc := va_free (wc := [(x0, .inr (1, [.ref qt, .int (nI tn), .ref qk, .ref qs, .ref qm, .int 1])), (qm, .inl (cM, 4, .inl fs))]) hD hS hA [0, 5] rfl
    refine vp_callSi (va_runV (As := [.int (nI k)]) (rest := []) ⟨hx, hb, hml, hown, hts⟩ (c_sumAt_ok l dC dI H.size x0 qt qk qs qm cM (nI tn) fs k hk3) (cwV 1 hts gL_law_X1_sumAt rfl rfl rfl (by decide +kernel) ⟨Nat.le_of_ble_eq_true rfl, Nat.le_of_ble_eq_true rfl⟩) ⟨fun a U g mk q => by obtain ⟨q0, q1, qP, qK, qD⟩ := q; exact ⟨q0, q1, qP, va_K.moved (u := U) (U := U.calling g mk a) (Vm.Alike.refl U.vm) qK, qD⟩, va_recv hKc hPc (ci := 1) (q0 := 0) rfl rfl, fun U hU hW => ⟨rfl, by rw [hU], by rw [hU]; exact hPc, va_K.moved hW.alike hKc, hDc.weaken (fun _ _ _ _ => trivial)⟩⟩ rfl rfl hl.1 rfl (lv_room (Nat.le_of_ble_eq_true rfl)) dL_law_266 ⟨Nat.le_of_ble_eq_true rfl, Nat.le_of_ble_eq_true rfl⟩).run (fun r hw => ?_)
    subst hw
    refine lv_aload_n hx hb dL_law_269 rfl (lv_at hl 1 rfl) ?_
    refine lv_aload_n hx hb dL_law_270 rfl (lv_at hl 3 rfl) ?_
    refine lv_iload_n hx hb dL_law_271 rfl (lv_at hl 0 rfl) ?_
    refine lv_iconst (v := 1) hx hb dL_law_272 (by decide) ?_
    refine lv_iadd hx hb dL_law_273 ?_
    refine kz_top (y := nI (6 * i + 1)) (nI_add (6 * i) 1) ?_
    refine kz_sld (j := (6 * i + 1)) hx hb hX hbl hbA hS (show (6 * i + 1) < L by omega) (by omega) dL_law_274 ?_
    refine kz_top (y := nI k) hk2 ?_
    have hPc := hP.sub (ws' := [(y0, .inr (2, [.ref ac, .ref au, .ref ab, .ref ae, .ref am, .ref ap, .int (nI tn), .ref ak, .ref al, .ref af, .ref an, .int (nI n), .ref ar, .int 1])), (ar, .inl (cJ, 16, .inl rs))]) [6, 17] rfl
    have hDc := hD.sub (ws' := [(y0, .inr (2, [.ref ac, .ref au, .ref ab, .ref ae, .ref am, .ref ap, .int (nI tn), .ref ak, .ref al, .ref af, .ref an, .int (nI n), .ref ar, .int 1])), (ar, .inl (cJ, 16, .inl rs))]) [6, 17] (by decide) rfl
    have hKc := hK.sub (tys' := [(cJ, .int)]) [4] rfl
    have hFc := va_free (wc := [(y0, .inr (2, [.ref ac, .ref au, .ref ab, .ref ae, .ref am, .ref ap, .int (nI tn), .ref ak, .ref al, .ref af, .ref an, .int (nI n), .ref ar, .int 1])), (ar, .inl (cJ, 16, .inl rs))]) hD hS hA [6, 17] rfl
    refine vp_callSi (va_runV (As := [.int (nI k)]) (rest := [.int (ks_us (fs (k / 4)) (nI (8 * (k % 4))) &&& 255)]) ⟨hx, hb, hml, hown, hts⟩ (r_sumAt_ok l dC dI H.size y0 ac au ab ae am ap ak al af an ar cJ (nI tn) (nI n) rs k hk3) (cwV 1 hts gL_law_X2_sumAt rfl rfl rfl (by decide +kernel) ⟨Nat.le_of_ble_eq_true rfl, Nat.le_of_ble_eq_true rfl⟩) ⟨fun a U g mk q => by obtain ⟨q0, q1, qP, qK, qD⟩ := q; exact ⟨q0, q1, qP, va_K.moved (u := U) (U := U.calling g mk a) (Vm.Alike.refl U.vm) qK, qD⟩, va_recv hKc hPc (ci := 2) (q0 := 0) rfl rfl, fun U hU hW => ⟨rfl, by rw [hU], by rw [hU]; exact hPc, va_K.moved hW.alike hKc, hDc.weaken (fun _ _ _ _ => trivial)⟩⟩ rfl rfl hl.1 rfl (lv_room (Nat.le_of_ble_eq_true rfl)) dL_law_275 ⟨Nat.le_of_ble_eq_true rfl, Nat.le_of_ble_eq_true rfl⟩).run (fun r hw => ?_)
    subst hw
    refine lv_icmp_eq (tgt := 283) hx hb dL_law_278 (by decide) (fun hc => ?_) (fun hc => ?_)
    · skip
      refine lv_iinc (v := nI (6 * (i + 1))) (lv' := [(3, .int (nI (6 * (i + 1)))), (2, .ref y0), (1, .ref x0), (0, .ref b)]) hx hb dL_law_283 hl (k := 0) rfl (by rw [Nat.mul_succ]; exact nI_add (6 * i) 6) (by decide) rfl (fun ls hl => ?_)
      refine lv_goto (tgt := 18) hx hb dL_law_286 (by decide) ?_
      exact K ls H locs ⟨tn, n, 1, v, ft, fk, wd, fs, rt, rk, bl, fr, fn, rs, f, ⟨r1, r2, r3, r4, r5, by omega, Or.inr ⟨rfl, r9⟩⟩, lv_sub hl [0, 1, 2, 3] rfl, hP, hD, hS⟩
    · skip
      exact absurd (r9 k hk3).symm hc
