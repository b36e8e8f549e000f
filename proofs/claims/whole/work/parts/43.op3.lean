set_option maxHeartbeats 4000000 in
set_option maxRecDepth 100000 in
/-- fill -/
theorem law_op3 {p : Program} {l : Launch} {e : Env} {s : State} {m : MethodId} {below : List Frame} {meth : Method} {c : Code} {dC : Nat → ClassId} {dI : Nat → Nat → Nat} {b L : Nat} {xs : Nat → Int32} (hL : L ≤ 3072) (C0 : lw_At p s m meth c b L xs) {tS tT x0 qt qk qs qw qm y0 ac au ab ae am ap ak al af an ar : Nat} {cT cK cW cM cJ : ClassId} (hT : ks_tab tS tT (fun q : Nat => s.heap.size ≤ q) s s.heap) (hN : ks_nw s) (hK : va_K (dC, dI) vwCl [(cT, .byte), (cK, .byte), (cW, .int), (cM, .int), (cJ, .int)] s) {i : Nat} (hi : 6 * i + 6 ≤ L) (K : ∀ (ls : Array Slot) (H : Heap) (locs : List Loc), lw_I dC dI s b x0 qt qk qs qw qm y0 ac au ab ae am ap ak al af an ar cT cK cW cM cJ (i + 1) ls H locs → W p l e room_1 s m #[Value.ref b] below meth c H locs 18 4258 (lw_Z below #[Value.ref b] s) (F0 m 18 ls [])) {tn n : Nat} {hs : Int32} {v : ks_Q} {ft fk wd fs rt rk bl fr fn rs f : Nat → Int32} (hr : ks_rel i tn n hs v ft fk wd fs rt rk bl fr rs f) {H : Heap} {locs : List Loc} {ls : Array Slot} (hl : lv_has ls 4 [(3, .int (nI (6 * i))), (2, .ref y0), (1, .ref x0), (0, .ref b)]) (hP : va_P (dC, dI) vwCl [(x0, .inr (1, [.ref qt, .int (nI tn), .ref qk, .ref qs, .ref qm, .int hs])), (qt, .inl (cT, 2000, .inl ft)), (qk, .inl (cK, 16, .inl fk)), (qs, .inr (0, [.ref qw, .int (nI n), .int v.1, .int v.2.1, .int v.2.2.1, .int v.2.2.2])), (qw, .inl (cW, 16, .inl wd)), (qm, .inl (cM, 4, .inl fs)), (y0, .inr (2, [.ref ac, .ref au, .ref ab, .ref ae, .ref am, .ref ap, .int (nI tn), .ref ak, .ref al, .ref af, .ref an, .int (nI n), .ref ar, .int hs])), (ac, .inl (cJ, 64, .inl ks_k)), (au, .inl (cJ, 16, .inl ks_tt)), (ab, .inl (cJ, 4, .inl ks_begI)), (ae, .inl (cJ, 4, .inl ks_tmI)), (am, .inl (cJ, 4, .inl ks_moI)), (ap, .inl (cJ, 2000, .inl rt)), (ak, .inl (cJ, 16, .inl rk)), (al, .inl (cJ, 64, .inl bl)), (af, .inl (cJ, 4, .inl fr)), (an, .inl (cJ, 4, .inl fn)), (ar, .inl (cJ, 16, .inl rs))] H) (hD : va_D (fun q : Nat => s.heap.size ≤ q) [(x0, .inr (1, [.ref qt, .int (nI tn), .ref qk, .ref qs, .ref qm, .int hs])), (qt, .inl (cT, 2000, .inl ft)), (qk, .inl (cK, 16, .inl fk)), (qs, .inr (0, [.ref qw, .int (nI n), .int v.1, .int v.2.1, .int v.2.2.1, .int v.2.2.2])), (qw, .inl (cW, 16, .inl wd)), (qm, .inl (cM, 4, .inl fs)), (y0, .inr (2, [.ref ac, .ref au, .ref ab, .ref ae, .ref am, .ref ap, .int (nI tn), .ref ak, .ref al, .ref af, .ref an, .int (nI n), .ref ar, .int hs])), (ac, .inl (cJ, 64, .inl ks_k)), (au, .inl (cJ, 16, .inl ks_tt)), (ab, .inl (cJ, 4, .inl ks_begI)), (ae, .inl (cJ, 4, .inl ks_tmI)), (am, .inl (cJ, 4, .inl ks_moI)), (ap, .inl (cJ, 2000, .inl rt)), (ak, .inl (cJ, 16, .inl rk)), (al, .inl (cJ, 64, .inl bl)), (af, .inl (cJ, 4, .inl fr)), (an, .inl (cJ, 4, .inl fn)), (ar, .inl (cJ, 16, .inl rs))]) (hS : va_S (fun q : Nat => s.heap.size ≤ q) s.heap H locs) : W p l e room_1 s m #[Value.ref b] below meth c H locs 18 4258 (lw_Z below #[Value.ref b] s) (F0 m 175 ls []) := by
  obtain ⟨hx, hb, hret, hml, hown, hts, hX, hbl, hlocks, hgv⟩ := C0
  have hown : s.vm.findClass RL = some m.cls := hown
  have hA : ∀ q : Nat, s.heap.size ≤ q → (fun q : Nat => s.heap.size ≤ q) q := fun _ h => h
  have hbA : ¬ (fun q : Nat => s.heap.size ≤ q) b := Nat.not_le.mpr hbl
  obtain ⟨r1, r2, r3, r4, r5, r6, r7⟩ := hr
  by_cases hq : xs (6 * i + 1) < 0 ∨ 4000 < xs (6 * i + 1)
  · skip
    refine lv_aload_n hx hb dL_law_175 rfl (lv_at hl 2 rfl) ?_
    refine lv_aload_n hx hb dL_law_176 rfl (lv_at hl 3 rfl) ?_
    refine lv_iload_n hx hb dL_law_177 rfl (lv_at hl 0 rfl) ?_
    refine lv_iconst (v := 1) hx hb dL_law_178 (by decide) ?_
    refine lv_iadd hx hb dL_law_179 ?_
    refine kz_top (y := nI (6 * i + 1)) (nI_add (6 * i) 1) ?_
    refine kz_sld (j := (6 * i + 1)) hx hb hX hbl hbA hS (show (6 * i + 1) < L by omega) (by omega) dL_law_180 ?_
    refine lv_aload_n hx hb dL_law_181 rfl (lv_at hl 3 rfl) ?_
    refine lv_iload_n hx hb dL_law_182 rfl (lv_at hl 0 rfl) ?_
    refine lv_iconst (v := 2) hx hb dL_law_183 (by decide) ?_
    refine lv_iadd hx hb dL_law_184 ?_
    refine kz_top (y := nI (6 * i + 2)) (nI_add (6 * i) 2) ?_
    refine kz_sld (j := (6 * i + 2)) hx hb hX hbl hbA hS (show (6 * i + 2) < L by omega) (by omega) dL_law_185 ?_
    have hPc := hP.sub (ws' := [(x0, .inr (1, [.ref qt, .int (nI tn), .ref qk, .ref qs, .ref qm, .int hs]))]) [0] rfl
    have hDc := hD.sub (ws' := [(x0, .inr (1, [.ref qt, .int (nI tn), .ref qk, .ref qs, .ref qm, .int hs]))]) [0] (by decide) rfl
    have hKc := hK.sub (tys' := []) [] rfl
    have hFc := va_free (wc := [(x0, .inr (1, [.ref qt, .int (nI tn), .ref qk, .ref qs, .ref qm, .int hs]))]) hD hS hA [0] rfl
    refine vp_callSi (va_runV (As := [.int (xs (6 * i + 1)), .int (xs (6 * i + 2))]) (rest := []) ⟨hx, hb, hml, hown, hts⟩ (c_fill_no l dC dI H.size x0 qt qk qs qw qm cW (nI tn) hs (nI n) v wd (xs (6 * i + 1)) (xs (6 * i + 2)) hq) (cwV 2 hts gL_law_X1_fill rfl rfl rfl (by decide +kernel) ⟨Nat.le_of_ble_eq_true rfl, Nat.le_of_ble_eq_true rfl⟩) ⟨fun a U g mk q => by obtain ⟨q0, q1, qP, qK, qD⟩ := q; exact ⟨q0, q1, qP, va_K.moved (u := U) (U := U.calling g mk a) (Vm.Alike.refl U.vm) qK, qD⟩, va_recv hKc hPc (ci := 1) (q0 := 0) rfl rfl, fun U hU hW => ⟨rfl, by rw [hU], by rw [hU]; exact hPc, va_K.moved hW.alike hKc, hDc.weaken (fun _ _ _ _ => trivial)⟩⟩ rfl rfl hl.1 rfl (lv_room (Nat.le_of_ble_eq_true rfl)) dL_law_186 ⟨Nat.le_of_ble_eq_true rfl, Nat.le_of_ble_eq_true rfl⟩).run (fun r hw => ?_)
    subst hw
    refine lv_aload_n hx hb dL_law_189 rfl (lv_at hl 1 rfl) ?_
    refine lv_aload_n hx hb dL_law_190 rfl (lv_at hl 3 rfl) ?_
    refine lv_iload_n hx hb dL_law_191 rfl (lv_at hl 0 rfl) ?_
    refine lv_iconst (v := 1) hx hb dL_law_192 (by decide) ?_
    refine lv_iadd hx hb dL_law_193 ?_
    refine kz_top (y := nI (6 * i + 1)) (nI_add (6 * i) 1) ?_
    refine kz_sld (j := (6 * i + 1)) hx hb hX hbl hbA hS (show (6 * i + 1) < L by omega) (by omega) dL_law_194 ?_
    refine lv_aload_n hx hb dL_law_195 rfl (lv_at hl 3 rfl) ?_
    refine lv_iload_n hx hb dL_law_196 rfl (lv_at hl 0 rfl) ?_
    refine lv_iconst (v := 2) hx hb dL_law_197 (by decide) ?_
    refine lv_iadd hx hb dL_law_198 ?_
    refine kz_top (y := nI (6 * i + 2)) (nI_add (6 * i) 2) ?_
    refine kz_sld (j := (6 * i + 2)) hx hb hX hbl hbA hS (show (6 * i + 2) < L by omega) (by omega) dL_law_199 ?_
    have hPc := hP.sub (ws' := [(y0, .inr (2, [.ref ac, .ref au, .ref ab, .ref ae, .ref am, .ref ap, .int (nI tn), .ref ak, .ref al, .ref af, .ref an, .int (nI n), .ref ar, .int hs]))]) [6] rfl
    have hDc := hD.sub (ws' := [(y0, .inr (2, [.ref ac, .ref au, .ref ab, .ref ae, .ref am, .ref ap, .int (nI tn), .ref ak, .ref al, .ref af, .ref an, .int (nI n), .ref ar, .int hs]))]) [6] (by decide) rfl
    have hKc := hK.sub (tys' := []) [] rfl
    have hFc := va_free (wc := [(y0, .inr (2, [.ref ac, .ref au, .ref ab, .ref ae, .ref am, .ref ap, .int (nI tn), .ref ak, .ref al, .ref af, .ref an, .int (nI n), .ref ar, .int hs]))]) hD hS hA [6] rfl
    refine vp_callSi (va_runV (As := [.int (xs (6 * i + 1)), .int (xs (6 * i + 2))]) (rest := [.int (-1)]) ⟨hx, hb, hml, hown, hts⟩ (r_fill_no l dC dI H.size y0 ac au ab ae am ap ak al af an ar cJ (nI tn) (nI n) hs (xs (6 * i + 1)) (xs (6 * i + 2)) hq) (cwV 2 hts gL_law_X2_fill rfl rfl rfl (by decide +kernel) ⟨Nat.le_of_ble_eq_true rfl, Nat.le_of_ble_eq_true rfl⟩) ⟨fun a U g mk q => by obtain ⟨q0, q1, qP, qK, qD⟩ := q; exact ⟨q0, q1, qP, va_K.moved (u := U) (U := U.calling g mk a) (Vm.Alike.refl U.vm) qK, qD⟩, va_recv hKc hPc (ci := 2) (q0 := 0) rfl rfl, fun U hU hW => ⟨rfl, by rw [hU], by rw [hU]; exact hPc, va_K.moved hW.alike hKc, hDc.weaken (fun _ _ _ _ => trivial)⟩⟩ rfl rfl hl.1 rfl (lv_room (Nat.le_of_ble_eq_true rfl)) dL_law_200 ⟨Nat.le_of_ble_eq_true rfl, Nat.le_of_ble_eq_true rfl⟩).run (fun r hw => ?_)
    subst hw
    refine lv_icmp_eq (tgt := 283) hx hb dL_law_203 (by decide) (fun hc => ?_) (fun hc => ?_)
    · skip
      refine lv_iinc (v := nI (6 * (i + 1))) (lv' := [(3, .int (nI (6 * (i + 1)))), (2, .ref y0), (1, .ref x0), (0, .ref b)]) hx hb dL_law_283 hl (k := 0) rfl (by rw [Nat.mul_succ]; exact nI_add (6 * i) 6) (by decide) rfl (fun ls hl => ?_)
      refine lv_goto (tgt := 18) hx hb dL_law_286 (by decide) ?_
      exact K ls H locs ⟨tn, n, hs, v, ft, fk, wd, fs, rt, rk, bl, fr, fn, rs, f, ⟨r1, r2, r3, r4, r5, by omega, r7⟩, lv_sub hl [0, 1, 2, 3] rfl, hP, hD, hS⟩
    · skip
      exact absurd rfl hc
  · skip
    obtain ⟨k, hk1, hk2⟩ := nI_of (fun q => hq (Or.inl q))
    have hk3 : k ≤ 4000 := by
      rcases Nat.lt_or_ge 4000 k with q | q
      · exact absurd (Or.inr (by rw [hk2]; exact nI_lt (a := 4000) q hk1)) hq
      · exact q
    have hb1 : n + k < 2 ^ 28 := by omega
    have a4 : ks_inv (ks_cat f n (fun j => xs (6 * i + 2) + 3 * nI j)) n wd v := ks_inv_8 r4 (fun j hj => by rw [ks_cat_lo hj])
    have a5 : rf_inv (ks_cat f n (fun j => xs (6 * i + 2) + 3 * nI j)) n bl fr := rf_inv_8 r5 (fun j hj => by rw [ks_cat_lo hj])
    refine lv_aload_n hx hb dL_law_175 rfl (lv_at hl 2 rfl) ?_
    refine lv_aload_n hx hb dL_law_176 rfl (lv_at hl 3 rfl) ?_
    refine lv_iload_n hx hb dL_law_177 rfl (lv_at hl 0 rfl) ?_
    refine lv_iconst (v := 1) hx hb dL_law_178 (by decide) ?_
    refine lv_iadd hx hb dL_law_179 ?_
    refine kz_top (y := nI (6 * i + 1)) (nI_add (6 * i) 1) ?_
    refine kz_sld (j := (6 * i + 1)) hx hb hX hbl hbA hS (show (6 * i + 1) < L by omega) (by omega) dL_law_180 ?_
    refine kz_top (y := nI k) hk2 ?_
    refine lv_aload_n hx hb dL_law_181 rfl (lv_at hl 3 rfl) ?_
    refine lv_iload_n hx hb dL_law_182 rfl (lv_at hl 0 rfl) ?_
    refine lv_iconst (v := 2) hx hb dL_law_183 (by decide) ?_
    refine lv_iadd hx hb dL_law_184 ?_
    refine kz_top (y := nI (6 * i + 2)) (nI_add (6 * i) 2) ?_
    refine kz_sld (j := (6 * i + 2)) hx hb hX hbl hbA hS (show (6 * i + 2) < L by omega) (by omega) dL_law_185 ?_
    have hPc := hP.sub (ws' := [(x0, .inr (1, [.ref qt, .int (nI tn), .ref qk, .ref qs, .ref qm, .int hs])), (qs, .inr (0, [.ref qw, .int (nI n), .int v.1, .int v.2.1, .int v.2.2.1, .int v.2.2.2])), (qw, .inl (cW, 16, .inl wd))]) [0, 3, 4] rfl
    have hDc := hD.sub (ws' := [(x0, .inr (1, [.ref qt, .int (nI tn), .ref qk, .ref qs, .ref qm, .int hs])), (qs, .inr (0, [.ref qw, .int (nI n), .int v.1, .int v.2.1, .int v.2.2.1, .int v.2.2.2])), (qw, .inl (cW, 16, .inl wd))]) [0, 3, 4] (by decide) rfl
    have hKc := hK.sub (tys' := [(cW, .int)]) [2] rfl
    have hFc := va_free (wc := [(x0, .inr (1, [.ref qt, .int (nI tn), .ref qk, .ref qs, .ref qm, .int hs])), (qs, .inr (0, [.ref qw, .int (nI n), .int v.1, .int v.2.1, .int v.2.2.1, .int v.2.2.2])), (qw, .inl (cW, 16, .inl wd))]) hD hS hA [0, 3, 4] rfl
    refine va_calli (va_runV (As := [.int (nI k), .int (xs (6 * i + 2))]) (rest := []) ⟨hx, hb, hml, hown, hts⟩ (c_fill_ok l dC dI H.size tS tT x0 qt qk qs qw qm cW (nI tn) hs n k v wd (ks_cat f n (fun j => xs (6 * i + 2) + 3 * nI j)) (xs (6 * i + 2)) hk3 hb1 a4 (fun j hj => by rw [ks_cat_hi])) (cwV 2 hts gL_law_X1_fill rfl rfl rfl (by decide +kernel) ⟨Nat.le_of_ble_eq_true rfl, Nat.le_of_ble_eq_true rfl⟩) ⟨fun a U g mk q => by obtain ⟨q0, q1, qP, qK, qD, qx0, qx1⟩ := q; exact ⟨q0, q1, qP, va_K.moved (u := U) (U := U.calling g mk a) (Vm.Alike.refl U.vm) qK, qD, ks_tab.moved (u := U) (U := U.calling g mk a) (Vm.Alike.refl U.vm) qx0, ks_nw.same (u := U) (U := U.calling g mk a) rfl qx1⟩, va_recv hKc hPc (ci := 1) (q0 := 0) rfl rfl, fun U hU hW => ⟨rfl, by rw [hU], by rw [hU]; exact hPc, va_K.moved hW.alike hKc, hDc.weaken (fun _ _ _ _ => trivial), hT.call hS hFc hU hW.alike, hN.warm hW⟩⟩ rfl rfl hl.1 rfl (lv_room (Nat.le_of_ble_eq_true rfl)) dL_law_186 ⟨Nat.le_of_ble_eq_true rfl, Nat.le_of_ble_eq_true rfl⟩) hS (fun q _ h => hFc q h) hFc (fun r u t H1 locs ht hvm hw hB hz1 hk1 hS => ?_)
    obtain ⟨wd2, v2⟩ := u
    obtain ⟨hP1, hK1, hD1⟩ := hB
    rw [ht] at hP1
    have hK1 := va_K.moved hvm.symm hK1
    try dsimp only at hw
    obtain ⟨hP, hD⟩ := va_join (wr := [(qt, .inl (cT, 2000, .inl ft)), (qk, .inl (cK, 16, .inl fk)), (qm, .inl (cM, 4, .inl fs)), (y0, .inr (2, [.ref ac, .ref au, .ref ab, .ref ae, .ref am, .ref ap, .int (nI tn), .ref ak, .ref al, .ref af, .ref an, .int (nI n), .ref ar, .int hs])), (ac, .inl (cJ, 64, .inl ks_k)), (au, .inl (cJ, 16, .inl ks_tt)), (ab, .inl (cJ, 4, .inl ks_begI)), (ae, .inl (cJ, 4, .inl ks_tmI)), (am, .inl (cJ, 4, .inl ks_moI)), (ap, .inl (cJ, 2000, .inl rt)), (ak, .inl (cJ, 16, .inl rk)), (al, .inl (cJ, 64, .inl bl)), (af, .inl (cJ, 4, .inl fr)), (an, .inl (cJ, 4, .inl fn)), (ar, .inl (cJ, 16, .inl rs))]) (w1 := [(x0, .inr (1, [.ref qt, .int (nI tn), .ref qk, .ref qs, .ref qm, .int hs])), (qs, .inr (0, [.ref qw, .int (nI (n + k)), .int v2.1, .int v2.2.1, .int v2.2.2.1, .int v2.2.2.2])), (qw, .inl (cW, 16, .inl wd2))]) hP hD [0, 3, 4] [1, 2, 5, 6, 7, 8, 9, 10, 11, 12, 13, 14, 15, 16, 17] rfl rfl (by decide) (by decide) hk1 hFc hP1 hD1
    have hP := hP.sub (ws' := [(x0, .inr (1, [.ref qt, .int (nI tn), .ref qk, .ref qs, .ref qm, .int hs])), (qt, .inl (cT, 2000, .inl ft)), (qk, .inl (cK, 16, .inl fk)), (qs, .inr (0, [.ref qw, .int (nI (n + k)), .int v2.1, .int v2.2.1, .int v2.2.2.1, .int v2.2.2.2])), (qw, .inl (cW, 16, .inl wd2)), (qm, .inl (cM, 4, .inl fs)), (y0, .inr (2, [.ref ac, .ref au, .ref ab, .ref ae, .ref am, .ref ap, .int (nI tn), .ref ak, .ref al, .ref af, .ref an, .int (nI n), .ref ar, .int hs])), (ac, .inl (cJ, 64, .inl ks_k)), (au, .inl (cJ, 16, .inl ks_tt)), (ab, .inl (cJ, 4, .inl ks_begI)), (ae, .inl (cJ, 4, .inl ks_tmI)), (am, .inl (cJ, 4, .inl ks_moI)), (ap, .inl (cJ, 2000, .inl rt)), (ak, .inl (cJ, 16, .inl rk)), (al, .inl (cJ, 64, .inl bl)), (af, .inl (cJ, 4, .inl fr)), (an, .inl (cJ, 4, .inl fn)), (ar, .inl (cJ, 16, .inl rs))]) [15, 0, 1, 16, 17, 2, 3, 4, 5, 6, 7, 8, 9, 10, 11, 12, 13, 14] rfl
    have hD := hD.sub (ws' := [(x0, .inr (1, [.ref qt, .int (nI tn), .ref qk, .ref qs, .ref qm, .int hs])), (qt, .inl (cT, 2000, .inl ft)), (qk, .inl (cK, 16, .inl fk)), (qs, .inr (0, [.ref qw, .int (nI (n + k)), .int v2.1, .int v2.2.1, .int v2.2.2.1, .int v2.2.2.2])), (qw, .inl (cW, 16, .inl wd2)), (qm, .inl (cM, 4, .inl fs)), (y0, .inr (2, [.ref ac, .ref au, .ref ab, .ref ae, .ref am, .ref ap, .int (nI tn), .ref ak, .ref al, .ref af, .ref an, .int (nI n), .ref ar, .int hs])), (ac, .inl (cJ, 64, .inl ks_k)), (au, .inl (cJ, 16, .inl ks_tt)), (ab, .inl (cJ, 4, .inl ks_begI)), (ae, .inl (cJ, 4, .inl ks_tmI)), (am, .inl (cJ, 4, .inl ks_moI)), (ap, .inl (cJ, 2000, .inl rt)), (ak, .inl (cJ, 16, .inl rk)), (al, .inl (cJ, 64, .inl bl)), (af, .inl (cJ, 4, .inl fr)), (an, .inl (cJ, 4, .inl fn)), (ar, .inl (cJ, 16, .inl rs))]) [15, 0, 1, 16, 17, 2, 3, 4, 5, 6, 7, 8, 9, 10, 11, 12, 13, 14] (by decide) rfl
    generalize H1 = H at hP hS ⊢
    have hP : va_P (dC, dI) vwCl [(x0, .inr (1, [.ref qt, .int (nI tn), .ref qk, .ref qs, .ref qm, .int hs])), (qt, .inl (cT, 2000, .inl ft)), (qk, .inl (cK, 16, .inl fk)), (qs, .inr (0, [.ref qw, .int (nI (n + k)), .int v2.1, .int v2.2.1, .int v2.2.2.1, .int v2.2.2.2])), (qw, .inl (cW, 16, .inl wd2)), (qm, .inl (cM, 4, .inl fs)), (y0, .inr (2, [.ref ac, .ref au, .ref ab, .ref ae, .ref am, .ref ap, .int (nI tn), .ref ak, .ref al, .ref af, .ref an, .int (nI n), .ref ar, .int hs])), (ac, .inl (cJ, 64, .inl ks_k)), (au, .inl (cJ, 16, .inl ks_tt)), (ab, .inl (cJ, 4, .inl ks_begI)), (ae, .inl (cJ, 4, .inl ks_tmI)), (am, .inl (cJ, 4, .inl ks_moI)), (ap, .inl (cJ, 2000, .inl rt)), (ak, .inl (cJ, 16, .inl rk)), (al, .inl (cJ, 64, .inl bl)), (af, .inl (cJ, 4, .inl fr)), (an, .inl (cJ, 4, .inl fn)), (ar, .inl (cJ, 16, .inl rs))] H := hP
    have hD : va_D (fun q : Nat => s.heap.size ≤ q) [(x0, .inr (1, [.ref qt, .int (nI tn), .ref qk, .ref qs, .ref qm, .int hs])), (qt, .inl (cT, 2000, .inl ft)), (qk, .inl (cK, 16, .inl fk)), (qs, .inr (0, [.ref qw, .int (nI (n + k)), .int v2.1, .int v2.2.1, .int v2.2.2.1, .int v2.2.2.2])), (qw, .inl (cW, 16, .inl wd2)), (qm, .inl (cM, 4, .inl fs)), (y0, .inr (2, [.ref ac, .ref au, .ref ab, .ref ae, .ref am, .ref ap, .int (nI tn), .ref ak, .ref al, .ref af, .ref an, .int (nI n), .ref ar, .int hs])), (ac, .inl (cJ, 64, .inl ks_k)), (au, .inl (cJ, 16, .inl ks_tt)), (ab, .inl (cJ, 4, .inl ks_begI)), (ae, .inl (cJ, 4, .inl ks_tmI)), (am, .inl (cJ, 4, .inl ks_moI)), (ap, .inl (cJ, 2000, .inl rt)), (ak, .inl (cJ, 16, .inl rk)), (al, .inl (cJ, 64, .inl bl)), (af, .inl (cJ, 4, .inl fr)), (an, .inl (cJ, 4, .inl fn)), (ar, .inl (cJ, 16, .inl rs))] := hD
    obtain ⟨rfl, b4⟩ := hw
    refine lv_aload_n hx hb dL_law_189 rfl (lv_at hl 1 rfl) ?_
    refine lv_aload_n hx hb dL_law_190 rfl (lv_at hl 3 rfl) ?_
    refine lv_iload_n hx hb dL_law_191 rfl (lv_at hl 0 rfl) ?_
    refine lv_iconst (v := 1) hx hb dL_law_192 (by decide) ?_
    refine lv_iadd hx hb dL_law_193 ?_
    refine kz_top (y := nI (6 * i + 1)) (nI_add (6 * i) 1) ?_
    refine kz_sld (j := (6 * i + 1)) hx hb hX hbl hbA hS (show (6 * i + 1) < L by omega) (by omega) dL_law_194 ?_
    refine kz_top (y := nI k) hk2 ?_
    refine lv_aload_n hx hb dL_law_195 rfl (lv_at hl 3 rfl) ?_
    refine lv_iload_n hx hb dL_law_196 rfl (lv_at hl 0 rfl) ?_
    refine lv_iconst (v := 2) hx hb dL_law_197 (by decide) ?_
    refine lv_iadd hx hb dL_law_198 ?_
    refine kz_top (y := nI (6 * i + 2)) (nI_add (6 * i) 2) ?_
    refine kz_sld (j := (6 * i + 2)) hx hb hX hbl hbA hS (show (6 * i + 2) < L by omega) (by omega) dL_law_199 ?_
    have hPc := hP.sub (ws' := [(y0, .inr (2, [.ref ac, .ref au, .ref ab, .ref ae, .ref am, .ref ap, .int (nI tn), .ref ak, .ref al, .ref af, .ref an, .int (nI n), .ref ar, .int hs])), (ac, .inl (cJ, 64, .inl ks_k)), (au, .inl (cJ, 16, .inl ks_tt)), (ae, .inl (cJ, 4, .inl ks_tmI)), (am, .inl (cJ, 4, .inl ks_moI)), (al, .inl (cJ, 64, .inl bl)), (af, .inl (cJ, 4, .inl fr)), (an, .inl (cJ, 4, .inl fn))]) [6, 7, 8, 10, 11, 14, 15, 16] rfl
    have hDc := hD.sub (ws' := [(y0, .inr (2, [.ref ac, .ref au, .ref ab, .ref ae, .ref am, .ref ap, .int (nI tn), .ref ak, .ref al, .ref af, .ref an, .int (nI n), .ref ar, .int hs])), (ac, .inl (cJ, 64, .inl ks_k)), (au, .inl (cJ, 16, .inl ks_tt)), (ae, .inl (cJ, 4, .inl ks_tmI)), (am, .inl (cJ, 4, .inl ks_moI)), (al, .inl (cJ, 64, .inl bl)), (af, .inl (cJ, 4, .inl fr)), (an, .inl (cJ, 4, .inl fn))]) [6, 7, 8, 10, 11, 14, 15, 16] (by decide) rfl
    have hKc := hK.sub (tys' := [(cJ, .int)]) [4] rfl
    have hFc := va_free (wc := [(y0, .inr (2, [.ref ac, .ref au, .ref ab, .ref ae, .ref am, .ref ap, .int (nI tn), .ref ak, .ref al, .ref af, .ref an, .int (nI n), .ref ar, .int hs])), (ac, .inl (cJ, 64, .inl ks_k)), (au, .inl (cJ, 16, .inl ks_tt)), (ae, .inl (cJ, 4, .inl ks_tmI)), (am, .inl (cJ, 4, .inl ks_moI)), (al, .inl (cJ, 64, .inl bl)), (af, .inl (cJ, 4, .inl fr)), (an, .inl (cJ, 4, .inl fn))]) hD hS hA [6, 7, 8, 10, 11, 14, 15, 16] rfl
    refine va_calli (va_runV (As := [.int (nI k), .int (xs (6 * i + 2))]) (rest := [.int (nI (n + k))]) ⟨hx, hb, hml, hown, hts⟩ (r_fill_ok l dC dI H.size y0 ac au ab ae am ap ak al af an ar cJ (nI tn) hs n k bl fr fn (ks_cat f n (fun j => xs (6 * i + 2) + 3 * nI j)) (xs (6 * i + 2)) hk3 hb1 a5 (fun j hj => by rw [ks_cat_hi])) (cwV 2 hts gL_law_X2_fill rfl rfl rfl (by decide +kernel) ⟨Nat.le_of_ble_eq_true rfl, Nat.le_of_ble_eq_true rfl⟩) ⟨fun a U g mk q => by obtain ⟨q0, q1, qP, qK, qD⟩ := q; exact ⟨q0, q1, qP, va_K.moved (u := U) (U := U.calling g mk a) (Vm.Alike.refl U.vm) qK, qD⟩, va_recv hKc hPc (ci := 2) (q0 := 0) rfl rfl, fun U hU hW => ⟨rfl, by rw [hU], by rw [hU]; exact hPc, va_K.moved hW.alike hKc, hDc.weaken (fun _ _ _ _ => trivial)⟩⟩ rfl rfl hl.1 rfl (lv_room (Nat.le_of_ble_eq_true rfl)) dL_law_200 ⟨Nat.le_of_ble_eq_true rfl, Nat.le_of_ble_eq_true rfl⟩) hS (fun q _ h => hFc q h) hFc (fun r u t H1 locs ht hvm hw hB hz1 hk1 hS => ?_)
    obtain ⟨b2, f2, n2⟩ := u
    obtain ⟨hP1, hK1, hD1⟩ := hB
    rw [ht] at hP1
    have hK1 := va_K.moved hvm.symm hK1
    try dsimp only at hw
    obtain ⟨hP, hD⟩ := va_join (wr := [(x0, .inr (1, [.ref qt, .int (nI tn), .ref qk, .ref qs, .ref qm, .int hs])), (qt, .inl (cT, 2000, .inl ft)), (qk, .inl (cK, 16, .inl fk)), (qs, .inr (0, [.ref qw, .int (nI (n + k)), .int v2.1, .int v2.2.1, .int v2.2.2.1, .int v2.2.2.2])), (qw, .inl (cW, 16, .inl wd2)), (qm, .inl (cM, 4, .inl fs)), (ab, .inl (cJ, 4, .inl ks_begI)), (ap, .inl (cJ, 2000, .inl rt)), (ak, .inl (cJ, 16, .inl rk)), (ar, .inl (cJ, 16, .inl rs))]) (w1 := [(y0, .inr (2, [.ref ac, .ref au, .ref ab, .ref ae, .ref am, .ref ap, .int (nI tn), .ref ak, .ref al, .ref af, .ref an, .int (nI (n + k)), .ref ar, .int hs])), (ac, .inl (cJ, 64, .inl ks_k)), (au, .inl (cJ, 16, .inl ks_tt)), (ae, .inl (cJ, 4, .inl ks_tmI)), (am, .inl (cJ, 4, .inl ks_moI)), (al, .inl (cJ, 64, .inl b2)), (af, .inl (cJ, 4, .inl f2)), (an, .inl (cJ, 4, .inl n2))]) hP hD [6, 7, 8, 10, 11, 14, 15, 16] [0, 1, 2, 3, 4, 5, 9, 12, 13, 17] rfl rfl (by decide) (by decide) hk1 hFc hP1 hD1
    have hP := hP.sub (ws' := [(x0, .inr (1, [.ref qt, .int (nI tn), .ref qk, .ref qs, .ref qm, .int hs])), (qt, .inl (cT, 2000, .inl ft)), (qk, .inl (cK, 16, .inl fk)), (qs, .inr (0, [.ref qw, .int (nI (n + k)), .int v2.1, .int v2.2.1, .int v2.2.2.1, .int v2.2.2.2])), (qw, .inl (cW, 16, .inl wd2)), (qm, .inl (cM, 4, .inl fs)), (y0, .inr (2, [.ref ac, .ref au, .ref ab, .ref ae, .ref am, .ref ap, .int (nI tn), .ref ak, .ref al, .ref af, .ref an, .int (nI (n + k)), .ref ar, .int hs])), (ac, .inl (cJ, 64, .inl ks_k)), (au, .inl (cJ, 16, .inl ks_tt)), (ab, .inl (cJ, 4, .inl ks_begI)), (ae, .inl (cJ, 4, .inl ks_tmI)), (am, .inl (cJ, 4, .inl ks_moI)), (ap, .inl (cJ, 2000, .inl rt)), (ak, .inl (cJ, 16, .inl rk)), (al, .inl (cJ, 64, .inl b2)), (af, .inl (cJ, 4, .inl f2)), (an, .inl (cJ, 4, .inl n2)), (ar, .inl (cJ, 16, .inl rs))]) [0, 1, 2, 3, 4, 5, 10, 11, 12, 6, 13, 14, 7, 8, 15, 16, 17, 9] rfl
    have hD := hD.sub (ws' := [(x0, .inr (1, [.ref qt, .int (nI tn), .ref qk, .ref qs, .ref qm, .int hs])), (qt, .inl (cT, 2000, .inl ft)), (qk, .inl (cK, 16, .inl fk)), (qs, .inr (0, [.ref qw, .int (nI (n + k)), .int v2.1, .int v2.2.1, .int v2.2.2.1, .int v2.2.2.2])), (qw, .inl (cW, 16, .inl wd2)), (qm, .inl (cM, 4, .inl fs)), (y0, .inr (2, [.ref ac, .ref au, .ref ab, .ref ae, .ref am, .ref ap, .int (nI tn), .ref ak, .ref al, .ref af, .ref an, .int (nI (n + k)), .ref ar, .int hs])), (ac, .inl (cJ, 64, .inl ks_k)), (au, .inl (cJ, 16, .inl ks_tt)), (ab, .inl (cJ, 4, .inl ks_begI)), (ae, .inl (cJ, 4, .inl ks_tmI)), (am, .inl (cJ, 4, .inl ks_moI)), (ap, .inl (cJ, 2000, .inl rt)), (ak, .inl (cJ, 16, .inl rk)), (al, .inl (cJ, 64, .inl b2)), (af, .inl (cJ, 4, .inl f2)), (an, .inl (cJ, 4, .inl n2)), (ar, .inl (cJ, 16, .inl rs))]) [0, 1, 2, 3, 4, 5, 10, 11, 12, 6, 13, 14, 7, 8, 15, 16, 17, 9] (by decide) rfl
    generalize H1 = H at hP hS ⊢
    have hP : va_P (dC, dI) vwCl [(x0, .inr (1, [.ref qt, .int (nI tn), .ref qk, .ref qs, .ref qm, .int hs])), (qt, .inl (cT, 2000, .inl ft)), (qk, .inl (cK, 16, .inl fk)), (qs, .inr (0, [.ref qw, .int (nI (n + k)), .int v2.1, .int v2.2.1, .int v2.2.2.1, .int v2.2.2.2])), (qw, .inl (cW, 16, .inl wd2)), (qm, .inl (cM, 4, .inl fs)), (y0, .inr (2, [.ref ac, .ref au, .ref ab, .ref ae, .ref am, .ref ap, .int (nI tn), .ref ak, .ref al, .ref af, .ref an, .int (nI (n + k)), .ref ar, .int hs])), (ac, .inl (cJ, 64, .inl ks_k)), (au, .inl (cJ, 16, .inl ks_tt)), (ab, .inl (cJ, 4, .inl ks_begI)), (ae, .inl (cJ, 4, .inl ks_tmI)), (am, .inl (cJ, 4, .inl ks_moI)), (ap, .inl (cJ, 2000, .inl rt)), (ak, .inl (cJ, 16, .inl rk)), (al, .inl (cJ, 64, .inl b2)), (af, .inl (cJ, 4, .inl f2)), (an, .inl (cJ, 4, .inl n2)), (ar, .inl (cJ, 16, .inl rs))] H := hP
    have hD : va_D (fun q : Nat => s.heap.size ≤ q) [(x0, .inr (1, [.ref qt, .int (nI tn), .ref qk, .ref qs, .ref qm, .int hs])), (qt, .inl (cT, 2000, .inl ft)), (qk, .inl (cK, 16, .inl fk)), (qs, .inr (0, [.ref qw, .int (nI (n + k)), .int v2.1, .int v2.2.1, .int v2.2.2.1, .int v2.2.2.2])), (qw, .inl (cW, 16, .inl wd2)), (qm, .inl (cM, 4, .inl fs)), (y0, .inr (2, [.ref ac, .ref au, .ref ab, .ref ae, .ref am, .ref ap, .int (nI tn), .ref ak, .ref al, .ref af, .ref an, .int (nI (n + k)), .ref ar, .int hs])), (ac, .inl (cJ, 64, .inl ks_k)), (au, .inl (cJ, 16, .inl ks_tt)), (ab, .inl (cJ, 4, .inl ks_begI)), (ae, .inl (cJ, 4, .inl ks_tmI)), (am, .inl (cJ, 4, .inl ks_moI)), (ap, .inl (cJ, 2000, .inl rt)), (ak, .inl (cJ, 16, .inl rk)), (al, .inl (cJ, 64, .inl b2)), (af, .inl (cJ, 4, .inl f2)), (an, .inl (cJ, 4, .inl n2)), (ar, .inl (cJ, 16, .inl rs))] := hD
    obtain ⟨rfl, b5⟩ := hw
    refine lv_icmp_eq (tgt := 283) hx hb dL_law_203 (by decide) (fun hc => ?_) (fun hc => ?_)
    · skip
      refine lv_iinc (v := nI (6 * (i + 1))) (lv' := [(3, .int (nI (6 * (i + 1)))), (2, .ref y0), (1, .ref x0), (0, .ref b)]) hx hb dL_law_283 hl (k := 0) rfl (by rw [Nat.mul_succ]; exact nI_add (6 * i) 6) (by decide) rfl (fun ls hl => ?_)
      refine lv_goto (tgt := 18) hx hb dL_law_286 (by decide) ?_
      exact K ls H locs ⟨tn, n + k, hs, v2, ft, fk, wd2, fs, rt, rk, b2, f2, n2, rs, _, ⟨r1, r2, r3, b4, b5, by omega, r7⟩, lv_sub hl [0, 1, 2, 3] rfl, hP, hD, hS⟩
    · skip
      exact absurd rfl hc
