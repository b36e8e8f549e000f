set_option maxHeartbeats 4000000 in
set_option maxRecDepth 100000 in
/-- feed -/
theorem law_op0 {p : Program} {l : Launch} {e : Env} {s : State} {m : MethodId} {below : List Frame} {meth : Method} {c : Code} {dC : Nat → ClassId} {dI : Nat → Nat → Nat} {b L : Nat} {xs : Nat → Int32} (hL : L ≤ 3072) (C0 : lw_At p s m meth c b L xs) {tS tT x0 qt qk qs qw qm y0 ac au ab ae am ap ak al af an ar : Nat} {cT cK cW cM cJ : ClassId} (hT : ks_tab tS tT (fun q : Nat => s.heap.size ≤ q) s s.heap) (hN : ks_nw s) (hK : va_K (dC, dI) vwCl [(cT, .byte), (cK, .byte), (cW, .int), (cM, .int), (cJ, .int)] s) {i : Nat} (hi : 6 * i + 6 ≤ L) (K : ∀ (ls : Array Slot) (H : Heap) (locs : List Loc), lw_I dC dI s b x0 qt qk qs qw qm y0 ac au ab ae am ap ak al af an ar cT cK cW cM cJ (i + 1) ls H locs → W p l e room_1 s m #[Value.ref b] below meth c H locs 18 4258 (lw_Z below #[Value.ref b] s) (F0 m 18 ls [])) {tn n : Nat} {hs : Int32} {v : ks_Q} {ft fk wd fs rt rk bl fr fn rs f : Nat → Int32} (hr : ks_rel i tn n hs v ft fk wd fs rt rk bl fr rs f) {H : Heap} {locs : List Loc} {ls : Array Slot} (hl : lv_has ls 4 [(3, .int (nI (6 * i))), (2, .ref y0), (1, .ref x0), (0, .ref b)]) (hP : va_P (dC, dI) vwCl [(x0, .inr (1, [.ref qt, .int (nI tn), .ref qk, .ref qs, .ref qm, .int hs])), (qt, .inl (cT, 2000, .inl ft)), (qk, .inl (cK, 16, .inl fk)), (qs, .inr (0, [.ref qw, .int (nI n), .int v.1, .int v.2.1, .int v.2.2.1, .int v.2.2.2])), (qw, .inl (cW, 16, .inl wd)), (qm, .inl (cM, 4, .inl fs)), (y0, .inr (2, [.ref ac, .ref au, .ref ab, .ref ae, .ref am, .ref ap, .int (nI tn), .ref ak, .ref al, .ref af, .ref an, .int (nI n), .ref ar, .int hs])), (ac, .inl (cJ, 64, .inl ks_k)), (au, .inl (cJ, 16, .inl ks_tt)), (ab, .inl (cJ, 4, .inl ks_begI)), (ae, .inl (cJ, 4, .inl ks_tmI)), (am, .inl (cJ, 4, .inl ks_moI)), (ap, .inl (cJ, 2000, .inl rt)), (ak, .inl (cJ, 16, .inl rk)), (al, .inl (cJ, 64, .inl bl)), (af, .inl (cJ, 4, .inl fr)), (an, .inl (cJ, 4, .inl fn)), (ar, .inl (cJ, 16, .inl rs))] H) (hD : va_D (fun q : Nat => s.heap.size ≤ q) [(x0, .inr (1, [.ref qt, .int (nI tn), .ref qk, .ref qs, .ref qm, .int hs])), (qt, .inl (cT, 2000, .inl ft)), (qk, .inl (cK, 16, .inl fk)), (qs, .inr (0, [.ref qw, .int (nI n), .int v.1, .int v.2.1, .int v.2.2.1, .int v.2.2.2])), (qw, .inl (cW, 16, .inl wd)), (qm, .inl (cM, 4, .inl fs)), (y0, .inr (2, [.ref ac, .ref au, .ref ab, .ref ae, .ref am, .ref ap, .int (nI tn), .ref ak, .ref al, .ref af, .ref an, .int (nI n), .ref ar, .int hs])), (ac, .inl (cJ, 64, .inl ks_k)), (au, .inl (cJ, 16, .inl ks_tt)), (ab, .inl (cJ, 4, .inl ks_begI)), (ae, .inl (cJ, 4, .inl ks_tmI)), (am, .inl (cJ, 4, .inl ks_moI)), (ap, .inl (cJ, 2000, .inl rt)), (ak, .inl (cJ, 16, .inl rk)), (al, .inl (cJ, 64, .inl bl)), (af, .inl (cJ, 4, .inl fr)), (an, .inl (cJ, 4, .inl fn)), (ar, .inl (cJ, 16, .inl rs))]) (hS : va_S (fun q : Nat => s.heap.size ≤ q) s.heap H locs) : W p l e room_1 s m #[Value.ref b] below meth c H locs 18 4258 (lw_Z below #[Value.ref b] s) (F0 m 76 ls []) := by
  obtain ⟨hx, hb, hret, hml, hown, hts, hX, hbl, hlocks, hgv⟩ := C0
  have hown : s.vm.findClass RL = some m.cls := hown
  have hA : ∀ q : Nat, s.heap.size ≤ q → (fun q : Nat => s.heap.size ≤ q) q := fun _ h => h
  have hbA : ¬ (fun q : Nat => s.heap.size ≤ q) b := Nat.not_le.mpr hbl
  obtain ⟨r1, r2, r3, r4, r5, r6, r7⟩ := hr
  by_cases hq : tn ≤ 1980
  · skip
    refine lv_aload_n hx hb dL_law_76 rfl (lv_at hl 2 rfl) ?_
    refine lv_aload_n hx hb dL_law_77 rfl (lv_at hl 3 rfl) ?_
    refine lv_iload_n hx hb dL_law_78 rfl (lv_at hl 0 rfl) ?_
    refine lv_iconst (v := 1) hx hb dL_law_79 (by decide) ?_
    refine lv_iadd hx hb dL_law_80 ?_
    refine kz_top (y := nI (6 * i + 1)) (nI_add (6 * i) 1) ?_
    refine kz_sld (j := (6 * i + 1)) hx hb hX hbl hbA hS (show (6 * i + 1) < L by omega) (by omega) dL_law_81 ?_
    refine lv_aload_n hx hb dL_law_82 rfl (lv_at hl 3 rfl) ?_
    refine lv_iload_n hx hb dL_law_83 rfl (lv_at hl 0 rfl) ?_
    refine lv_iconst (v := 2) hx hb dL_law_84 (by decide) ?_
    refine lv_iadd hx hb dL_law_85 ?_
    refine kz_top (y := nI (6 * i + 2)) (nI_add (6 * i) 2) ?_
    refine kz_sld (j := (6 * i + 2)) hx hb hX hbl hbA hS (show (6 * i + 2) < L by omega) (by omega) dL_law_86 ?_
    refine lv_aload_n hx hb dL_law_87 rfl (lv_at hl 3 rfl) ?_
    refine lv_iload_n hx hb dL_law_88 rfl (lv_at hl 0 rfl) ?_
    refine lv_iconst (v := 3) hx hb dL_law_89 (by decide) ?_
    refine lv_iadd hx hb dL_law_90 ?_
    refine kz_top (y := nI (6 * i + 3)) (nI_add (6 * i) 3) ?_
    refine kz_sld (j := (6 * i + 3)) hx hb hX hbl hbA hS (show (6 * i + 3) < L by omega) (by omega) dL_law_91 ?_
    refine lv_aload_n hx hb dL_law_92 rfl (lv_at hl 3 rfl) ?_
    refine lv_iload_n hx hb dL_law_93 rfl (lv_at hl 0 rfl) ?_
    refine lv_iconst (v := 4) hx hb dL_law_94 (by decide) ?_
    refine lv_iadd hx hb dL_law_95 ?_
    refine kz_top (y := nI (6 * i + 4)) (nI_add (6 * i) 4) ?_
    refine kz_sld (j := (6 * i + 4)) hx hb hX hbl hbA hS (show (6 * i + 4) < L by omega) (by omega) dL_law_96 ?_
    refine lv_aload_n hx hb dL_law_97 rfl (lv_at hl 3 rfl) ?_
    refine lv_iload_n hx hb dL_law_98 rfl (lv_at hl 0 rfl) ?_
    refine lv_iconst (v := 5) hx hb dL_law_99 (by decide) ?_
    refine lv_iadd hx hb dL_law_100 ?_
    refine kz_top (y := nI (6 * i + 5)) (nI_add (6 * i) 5) ?_
    refine kz_sld (j := (6 * i + 5)) hx hb hX hbl hbA hS (show (6 * i + 5) < L by omega) (by omega) dL_law_101 ?_
    have hPc := hP.sub (ws' := [(x0, .inr (1, [.ref qt, .int (nI tn), .ref qk, .ref qs, .ref qm, .int hs])), (qt, .inl (cT, 2000, .inl ft))]) [0, 1] rfl
    have hDc := hD.sub (ws' := [(x0, .inr (1, [.ref qt, .int (nI tn), .ref qk, .ref qs, .ref qm, .int hs])), (qt, .inl (cT, 2000, .inl ft))]) [0, 1] (by decide) rfl
    have hKc := hK.sub (tys' := [(cT, .byte)]) [0] rfl
    have hFc := va_free (wc := [(x0, .inr (1, [.ref qt, .int (nI tn), .ref qk, .ref qs, .ref qm, .int hs])), (qt, .inl (cT, 2000, .inl ft))]) hD hS hA [0, 1] rfl
    refine va_calli (va_runV (As := [.int (xs (6 * i + 1)), .int (xs (6 * i + 2)), .int (xs (6 * i + 3)), .int (xs (6 * i + 4)), .int (xs (6 * i + 5))]) (rest := []) ⟨hx, hb, hml, hown, hts⟩ (c_feed_ok l dC dI H.size x0 qt qk qs qm cT tn hs ft (xs (6 * i + 1)) (xs (6 * i + 2)) (xs (6 * i + 3)) (xs (6 * i + 4)) (xs (6 * i + 5)) hq) (cwV 5 hts gL_law_X1_feed rfl rfl rfl (by decide +kernel) ⟨Nat.le_of_ble_eq_true rfl, Nat.le_of_ble_eq_true rfl⟩) ⟨fun a U g mk q => by obtain ⟨q0, q1, qP, qK, qD⟩ := q; exact ⟨q0, q1, qP, va_K.moved (u := U) (U := U.calling g mk a) (Vm.Alike.refl U.vm) qK, qD⟩, va_recv hKc hPc (ci := 1) (q0 := 0) rfl rfl, fun U hU hW => ⟨rfl, by rw [hU], by rw [hU]; exact hPc, va_K.moved hW.alike hKc, hDc.weaken (fun _ _ _ _ => trivial)⟩⟩ rfl rfl hl.1 rfl (lv_room (Nat.le_of_ble_eq_true rfl)) dL_law_102 ⟨Nat.le_of_ble_eq_true rfl, Nat.le_of_ble_eq_true rfl⟩) hS (fun q _ h => hFc q h) hFc (fun r u t H1 locs ht hvm hw hB hz1 hk1 hS => ?_)
    obtain ⟨hP1, hK1, hD1⟩ := hB
    rw [ht] at hP1
    have hK1 := va_K.moved hvm.symm hK1
    try dsimp only at hw
    obtain ⟨hP, hD⟩ := va_join (wr := [(qk, .inl (cK, 16, .inl fk)), (qs, .inr (0, [.ref qw, .int (nI n), .int v.1, .int v.2.1, .int v.2.2.1, .int v.2.2.2])), (qw, .inl (cW, 16, .inl wd)), (qm, .inl (cM, 4, .inl fs)), (y0, .inr (2, [.ref ac, .ref au, .ref ab, .ref ae, .ref am, .ref ap, .int (nI tn), .ref ak, .ref al, .ref af, .ref an, .int (nI n), .ref ar, .int hs])), (ac, .inl (cJ, 64, .inl ks_k)), (au, .inl (cJ, 16, .inl ks_tt)), (ab, .inl (cJ, 4, .inl ks_begI)), (ae, .inl (cJ, 4, .inl ks_tmI)), (am, .inl (cJ, 4, .inl ks_moI)), (ap, .inl (cJ, 2000, .inl rt)), (ak, .inl (cJ, 16, .inl rk)), (al, .inl (cJ, 64, .inl bl)), (af, .inl (cJ, 4, .inl fr)), (an, .inl (cJ, 4, .inl fn)), (ar, .inl (cJ, 16, .inl rs))]) (w1 := [(x0, .inr (1, [.ref qt, .int (nI (tn + 20)), .ref qk, .ref qs, .ref qm, .int hs])), (qt, .inl (cT, 2000, .inl (ks_wr (ks_wr (ks_wr (ks_wr (ks_wr ft tn (xs (6 * i + 1))) (tn + 4) (xs (6 * i + 2))) (tn + 8) (xs (6 * i + 3))) (tn + 12) (xs (6 * i + 4))) (tn + 16) (xs (6 * i + 5)))))]) hP hD [0, 1] [2, 3, 4, 5, 6, 7, 8, 9, 10, 11, 12, 13, 14, 15, 16, 17] rfl rfl (by decide) (by decide) hk1 hFc hP1 hD1
    have hP := hP.sub (ws' := [(x0, .inr (1, [.ref qt, .int (nI (tn + 20)), .ref qk, .ref qs, .ref qm, .int hs])), (qt, .inl (cT, 2000, .inl (ks_wr (ks_wr (ks_wr (ks_wr (ks_wr ft tn (xs (6 * i + 1))) (tn + 4) (xs (6 * i + 2))) (tn + 8) (xs (6 * i + 3))) (tn + 12) (xs (6 * i + 4))) (tn + 16) (xs (6 * i + 5))))), (qk, .inl (cK, 16, .inl fk)), (qs, .inr (0, [.ref qw, .int (nI n), .int v.1, .int v.2.1, .int v.2.2.1, .int v.2.2.2])), (qw, .inl (cW, 16, .inl wd)), (qm, .inl (cM, 4, .inl fs)), (y0, .inr (2, [.ref ac, .ref au, .ref ab, .ref ae, .ref am, .ref ap, .int (nI tn), .ref ak, .ref al, .ref af, .ref an, .int (nI n), .ref ar, .int hs])), (ac, .inl (cJ, 64, .inl ks_k)), (au, .inl (cJ, 16, .inl ks_tt)), (ab, .inl (cJ, 4, .inl ks_begI)), (ae, .inl (cJ, 4, .inl ks_tmI)), (am, .inl (cJ, 4, .inl ks_moI)), (ap, .inl (cJ, 2000, .inl rt)), (ak, .inl (cJ, 16, .inl rk)), (al, .inl (cJ, 64, .inl bl)), (af, .inl (cJ, 4, .inl fr)), (an, .inl (cJ, 4, .inl fn)), (ar, .inl (cJ, 16, .inl rs))]) [16, 17, 0, 1, 2, 3, 4, 5, 6, 7, 8, 9, 10, 11, 12, 13, 14, 15] rfl
    have hD := hD.sub (ws' := [(x0, .inr (1, [.ref qt, .int (nI (tn + 20)), .ref qk, .ref qs, .ref qm, .int hs])), (qt, .inl (cT, 2000, .inl (ks_wr (ks_wr (ks_wr (ks_wr (ks_wr ft tn (xs (6 * i + 1))) (tn + 4) (xs (6 * i + 2))) (tn + 8) (xs (6 * i + 3))) (tn + 12) (xs (6 * i + 4))) (tn + 16) (xs (6 * i + 5))))), (qk, .inl (cK, 16, .inl fk)), (qs, .inr (0, [.ref qw, .int (nI n), .int v.1, .int v.2.1, .int v.2.2.1, .int v.2.2.2])), (qw, .inl (cW, 16, .inl wd)), (qm, .inl (cM, 4, .inl fs)), (y0, .inr (2, [.ref ac, .ref au, .ref ab, .ref ae, .ref am, .ref ap, .int (nI tn), .ref ak, .ref al, .ref af, .ref an, .int (nI n), .ref ar, .int hs])), (ac, .inl (cJ, 64, .inl ks_k)), (au, .inl (cJ, 16, .inl ks_tt)), (ab, .inl (cJ, 4, .inl ks_begI)), (ae, .inl (cJ, 4, .inl ks_tmI)), (am, .inl (cJ, 4, .inl ks_moI)), (ap, .inl (cJ, 2000, .inl rt)), (ak, .inl (cJ, 16, .inl rk)), (al, .inl (cJ, 64, .inl bl)), (af, .inl (cJ, 4, .inl fr)), (an, .inl (cJ, 4, .inl fn)), (ar, .inl (cJ, 16, .inl rs))]) [16, 17, 0, 1, 2, 3, 4, 5, 6, 7, 8, 9, 10, 11, 12, 13, 14, 15] (by decide) rfl
    generalize H1 = H at hP hS ⊢
    have hP : va_P (dC, dI) vwCl [(x0, .inr (1, [.ref qt, .int (nI (tn + 20)), .ref qk, .ref qs, .ref qm, .int hs])), (qt, .inl (cT, 2000, .inl (ks_wr (ks_wr (ks_wr (ks_wr (ks_wr ft tn (xs (6 * i + 1))) (tn + 4) (xs (6 * i + 2))) (tn + 8) (xs (6 * i + 3))) (tn + 12) (xs (6 * i + 4))) (tn + 16) (xs (6 * i + 5))))), (qk, .inl (cK, 16, .inl fk)), (qs, .inr (0, [.ref qw, .int (nI n), .int v.1, .int v.2.1, .int v.2.2.1, .int v.2.2.2])), (qw, .inl (cW, 16, .inl wd)), (qm, .inl (cM, 4, .inl fs)), (y0, .inr (2, [.ref ac, .ref au, .ref ab, .ref ae, .ref am, .ref ap, .int (nI tn), .ref ak, .ref al, .ref af, .ref an, .int (nI n), .ref ar, .int hs])), (ac, .inl (cJ, 64, .inl ks_k)), (au, .inl (cJ, 16, .inl ks_tt)), (ab, .inl (cJ, 4, .inl ks_begI)), (ae, .inl (cJ, 4, .inl ks_tmI)), (am, .inl (cJ, 4, .inl ks_moI)), (ap, .inl (cJ, 2000, .inl rt)), (ak, .inl (cJ, 16, .inl rk)), (al, .inl (cJ, 64, .inl bl)), (af, .inl (cJ, 4, .inl fr)), (an, .inl (cJ, 4, .inl fn)), (ar, .inl (cJ, 16, .inl rs))] H := hP
    have hD : va_D (fun q : Nat => s.heap.size ≤ q) [(x0, .inr (1, [.ref qt, .int (nI (tn + 20)), .ref qk, .ref qs, .ref qm, .int hs])), (qt, .inl (cT, 2000, .inl (ks_wr (ks_wr (ks_wr (ks_wr (ks_wr ft tn (xs (6 * i + 1))) (tn + 4) (xs (6 * i + 2))) (tn + 8) (xs (6 * i + 3))) (tn + 12) (xs (6 * i + 4))) (tn + 16) (xs (6 * i + 5))))), (qk, .inl (cK, 16, .inl fk)), (qs, .inr (0, [.ref qw, .int (nI n), .int v.1, .int v.2.1, .int v.2.2.1, .int v.2.2.2])), (qw, .inl (cW, 16, .inl wd)), (qm, .inl (cM, 4, .inl fs)), (y0, .inr (2, [.ref ac, .ref au, .ref ab, .ref ae, .ref am, .ref ap, .int (nI tn), .ref ak, .ref al, .ref af, .ref an, .int (nI n), .ref ar, .int hs])), (ac, .inl (cJ, 64, .inl ks_k)), (au, .inl (cJ, 16, .inl ks_tt)), (ab, .inl (cJ, 4, .inl ks_begI)), (ae, .inl (cJ, 4, .inl ks_tmI)), (am, .inl (cJ, 4, .inl ks_moI)), (ap, .inl (cJ, 2000, .inl rt)), (ak, .inl (cJ, 16, .inl rk)), (al, .inl (cJ, 64, .inl bl)), (af, .inl (cJ, 4, .inl fr)), (an, .inl (cJ, 4, .inl fn)), (ar, .inl (cJ, 16, .inl rs))] := hD
    subst hw
    refine lv_aload_n hx hb dL_law_105 rfl (lv_at hl 1 rfl) ?_
    refine lv_aload_n hx hb dL_law_106 rfl (lv_at hl 3 rfl) ?_
    refine lv_iload_n hx hb dL_law_107 rfl (lv_at hl 0 rfl) ?_
    refine lv_iconst (v := 1) hx hb dL_law_108 (by decide) ?_
    refine lv_iadd hx hb dL_law_109 ?_
    refine kz_top (y := nI (6 * i + 1)) (nI_add (6 * i) 1) ?_
    refine kz_sld (j := (6 * i + 1)) hx hb hX hbl hbA hS (show (6 * i + 1) < L by omega) (by omega) dL_law_110 ?_
    refine lv_aload_n hx hb dL_law_111 rfl (lv_at hl 3 rfl) ?_
    refine lv_iload_n hx hb dL_law_112 rfl (lv_at hl 0 rfl) ?_
    refine lv_iconst (v := 2) hx hb dL_law_113 (by decide) ?_
    refine lv_iadd hx hb dL_law_114 ?_
    refine kz_top (y := nI (6 * i + 2)) (nI_add (6 * i) 2) ?_
    refine kz_sld (j := (6 * i + 2)) hx hb hX hbl hbA hS (show (6 * i + 2) < L by omega) (by omega) dL_law_115 ?_
    refine lv_aload_n hx hb dL_law_116 rfl (lv_at hl 3 rfl) ?_
    refine lv_iload_n hx hb dL_law_117 rfl (lv_at hl 0 rfl) ?_
    refine lv_iconst (v := 3) hx hb dL_law_118 (by decide) ?_
    refine lv_iadd hx hb dL_law_119 ?_
    refine kz_top (y := nI (6 * i + 3)) (nI_add (6 * i) 3) ?_
    refine kz_sld (j := (6 * i + 3)) hx hb hX hbl hbA hS (show (6 * i + 3) < L by omega) (by omega) dL_law_120 ?_
    refine lv_aload_n hx hb dL_law_121 rfl (lv_at hl 3 rfl) ?_
    refine lv_iload_n hx hb dL_law_122 rfl (lv_at hl 0 rfl) ?_
    refine lv_iconst (v := 4) hx hb dL_law_123 (by decide) ?_
    refine lv_iadd hx hb dL_law_124 ?_
    refine kz_top (y := nI (6 * i + 4)) (nI_add (6 * i) 4) ?_
    refine kz_sld (j := (6 * i + 4)) hx hb hX hbl hbA hS (show (6 * i + 4) < L by omega) (by omega) dL_law_125 ?_
    refine lv_aload_n hx hb dL_law_126 rfl (lv_at hl 3 rfl) ?_
    refine lv_iload_n hx hb dL_law_127 rfl (lv_at hl 0 rfl) ?_
    refine lv_iconst (v := 5) hx hb dL_law_128 (by decide) ?_
    refine lv_iadd hx hb dL_law_129 ?_
    refine kz_top (y := nI (6 * i + 5)) (nI_add (6 * i) 5) ?_
    refine kz_sld (j := (6 * i + 5)) hx hb hX hbl hbA hS (show (6 * i + 5) < L by omega) (by omega) dL_law_130 ?_
    have hPc := hP.sub (ws' := [(y0, .inr (2, [.ref ac, .ref au, .ref ab, .ref ae, .ref am, .ref ap, .int (nI tn), .ref ak, .ref al, .ref af, .ref an, .int (nI n), .ref ar, .int hs])), (ap, .inl (cJ, 2000, .inl rt))]) [6, 12] rfl
    have hDc := hD.sub (ws' := [(y0, .inr (2, [.ref ac, .ref au, .ref ab, .ref ae, .ref am, .ref ap, .int (nI tn), .ref ak, .ref al, .ref af, .ref an, .int (nI n), .ref ar, .int hs])), (ap, .inl (cJ, 2000, .inl rt))]) [6, 12] (by decide) rfl
    have hKc := hK.sub (tys' := [(cJ, .int)]) [4] rfl
    have hFc := va_free (wc := [(y0, .inr (2, [.ref ac, .ref au, .ref ab, .ref ae, .ref am, .ref ap, .int (nI tn), .ref ak, .ref al, .ref af, .ref an, .int (nI n), .ref ar, .int hs])), (ap, .inl (cJ, 2000, .inl rt))]) hD hS hA [6, 12] rfl
    refine va_calli (va_runV (As := [.int (xs (6 * i + 1)), .int (xs (6 * i + 2)), .int (xs (6 * i + 3)), .int (xs (6 * i + 4)), .int (xs (6 * i + 5))]) (rest := [.int 1]) ⟨hx, hb, hml, hown, hts⟩ (r_feed_ok l dC dI H.size y0 ac au ab ae am ap ak al af an ar cJ tn (nI n) hs rt (xs (6 * i + 1)) (xs (6 * i + 2)) (xs (6 * i + 3)) (xs (6 * i + 4)) (xs (6 * i + 5)) hq) (cwV 5 hts gL_law_X2_feed rfl rfl rfl (by decide +kernel) ⟨Nat.le_of_ble_eq_true rfl, Nat.le_of_ble_eq_true rfl⟩) ⟨fun a U g mk q => by obtain ⟨q0, q1, qP, qK, qD⟩ := q; exact ⟨q0, q1, qP, va_K.moved (u := U) (U := U.calling g mk a) (Vm.Alike.refl U.vm) qK, qD⟩, va_recv hKc hPc (ci := 2) (q0 := 0) rfl rfl, fun U hU hW => ⟨rfl, by rw [hU], by rw [hU]; exact hPc, va_K.moved hW.alike hKc, hDc.weaken (fun _ _ _ _ => trivial)⟩⟩ rfl rfl hl.1 rfl (lv_room (Nat.le_of_ble_eq_true rfl)) dL_law_131 ⟨Nat.le_of_ble_eq_true rfl, Nat.le_of_ble_eq_true rfl⟩) hS (fun q _ h => hFc q h) hFc (fun r u t H1 locs ht hvm hw hB hz1 hk1 hS => ?_)
    obtain ⟨hP1, hK1, hD1⟩ := hB
    rw [ht] at hP1
    have hK1 := va_K.moved hvm.symm hK1
    try dsimp only at hw
    obtain ⟨hP, hD⟩ := va_join (wr := [(x0, .inr (1, [.ref qt, .int (nI (tn + 20)), .ref qk, .ref qs, .ref qm, .int hs])), (qt, .inl (cT, 2000, .inl (ks_wr (ks_wr (ks_wr (ks_wr (ks_wr ft tn (xs (6 * i + 1))) (tn + 4) (xs (6 * i + 2))) (tn + 8) (xs (6 * i + 3))) (tn + 12) (xs (6 * i + 4))) (tn + 16) (xs (6 * i + 5))))), (qk, .inl (cK, 16, .inl fk)), (qs, .inr (0, [.ref qw, .int (nI n), .int v.1, .int v.2.1, .int v.2.2.1, .int v.2.2.2])), (qw, .inl (cW, 16, .inl wd)), (qm, .inl (cM, 4, .inl fs)), (ac, .inl (cJ, 64, .inl ks_k)), (au, .inl (cJ, 16, .inl ks_tt)), (ab, .inl (cJ, 4, .inl ks_begI)), (ae, .inl (cJ, 4, .inl ks_tmI)), (am, .inl (cJ, 4, .inl ks_moI)), (ak, .inl (cJ, 16, .inl rk)), (al, .inl (cJ, 64, .inl bl)), (af, .inl (cJ, 4, .inl fr)), (an, .inl (cJ, 4, .inl fn)), (ar, .inl (cJ, 16, .inl rs))]) (w1 := [(y0, .inr (2, [.ref ac, .ref au, .ref ab, .ref ae, .ref am, .ref ap, .int (nI (tn + 20)), .ref ak, .ref al, .ref af, .ref an, .int (nI n), .ref ar, .int hs])), (ap, .inl (cJ, 2000, .inl (ks_ly (ks_ly (ks_ly (ks_ly (ks_ly rt tn (xs (6 * i + 1))) (tn + 4) (xs (6 * i + 2))) (tn + 8) (xs (6 * i + 3))) (tn + 12) (xs (6 * i + 4))) (tn + 16) (xs (6 * i + 5)))))]) hP hD [6, 12] [0, 1, 2, 3, 4, 5, 7, 8, 9, 10, 11, 13, 14, 15, 16, 17] rfl rfl (by decide) (by decide) hk1 hFc hP1 hD1
    have hP := hP.sub (ws' := [(x0, .inr (1, [.ref qt, .int (nI (tn + 20)), .ref qk, .ref qs, .ref qm, .int hs])), (qt, .inl (cT, 2000, .inl (ks_wr (ks_wr (ks_wr (ks_wr (ks_wr ft tn (xs (6 * i + 1))) (tn + 4) (xs (6 * i + 2))) (tn + 8) (xs (6 * i + 3))) (tn + 12) (xs (6 * i + 4))) (tn + 16) (xs (6 * i + 5))))), (qk, .inl (cK, 16, .inl fk)), (qs, .inr (0, [.ref qw, .int (nI n), .int v.1, .int v.2.1, .int v.2.2.1, .int v.2.2.2])), (qw, .inl (cW, 16, .inl wd)), (qm, .inl (cM, 4, .inl fs)), (y0, .inr (2, [.ref ac, .ref au, .ref ab, .ref ae, .ref am, .ref ap, .int (nI (tn + 20)), .ref ak, .ref al, .ref af, .ref an, .int (nI n), .ref ar, .int hs])), (ac, .inl (cJ, 64, .inl ks_k)), (au, .inl (cJ, 16, .inl ks_tt)), (ab, .inl (cJ, 4, .inl ks_begI)), (ae, .inl (cJ, 4, .inl ks_tmI)), (am, .inl (cJ, 4, .inl ks_moI)), (ap, .inl (cJ, 2000, .inl (ks_ly (ks_ly (ks_ly (ks_ly (ks_ly rt tn (xs (6 * i + 1))) (tn + 4) (xs (6 * i + 2))) (tn + 8) (xs (6 * i + 3))) (tn + 12) (xs (6 * i + 4))) (tn + 16) (xs (6 * i + 5))))), (ak, .inl (cJ, 16, .inl rk)), (al, .inl (cJ, 64, .inl bl)), (af, .inl (cJ, 4, .inl fr)), (an, .inl (cJ, 4, .inl fn)), (ar, .inl (cJ, 16, .inl rs))]) [0, 1, 2, 3, 4, 5, 16, 6, 7, 8, 9, 10, 17, 11, 12, 13, 14, 15] rfl
    have hD := hD.sub (ws' := [(x0, .inr (1, [.ref qt, .int (nI (tn + 20)), .ref qk, .ref qs, .ref qm, .int hs])), (qt, .inl (cT, 2000, .inl (ks_wr (ks_wr (ks_wr (ks_wr (ks_wr ft tn (xs (6 * i + 1))) (tn + 4) (xs (6 * i + 2))) (tn + 8) (xs (6 * i + 3))) (tn + 12) (xs (6 * i + 4))) (tn + 16) (xs (6 * i + 5))))), (qk, .inl (cK, 16, .inl fk)), (qs, .inr (0, [.ref qw, .int (nI n), .int v.1, .int v.2.1, .int v.2.2.1, .int v.2.2.2])), (qw, .inl (cW, 16, .inl wd)), (qm, .inl (cM, 4, .inl fs)), (y0, .inr (2, [.ref ac, .ref au, .ref ab, .ref ae, .ref am, .ref ap, .int (nI (tn + 20)), .ref ak, .ref al, .ref af, .ref an, .int (nI n), .ref ar, .int hs])), (ac, .inl (cJ, 64, .inl ks_k)), (au, .inl (cJ, 16, .inl ks_tt)), (ab, .inl (cJ, 4, .inl ks_begI)), (ae, .inl (cJ, 4, .inl ks_tmI)), (am, .inl (cJ, 4, .inl ks_moI)), (ap, .inl (cJ, 2000, .inl (ks_ly (ks_ly (ks_ly (ks_ly (ks_ly rt tn (xs (6 * i + 1))) (tn + 4) (xs (6 * i + 2))) (tn + 8) (xs (6 * i + 3))) (tn + 12) (xs (6 * i + 4))) (tn + 16) (xs (6 * i + 5))))), (ak, .inl (cJ, 16, .inl rk)), (al, .inl (cJ, 64, .inl bl)), (af, .inl (cJ, 4, .inl fr)), (an, .inl (cJ, 4, .inl fn)), (ar, .inl (cJ, 16, .inl rs))]) [0, 1, 2, 3, 4, 5, 16, 6, 7, 8, 9, 10, 17, 11, 12, 13, 14, 15] (by decide) rfl
    generalize H1 = H at hP hS ⊢
    have hP : va_P (dC, dI) vwCl [(x0, .inr (1, [.ref qt, .int (nI (tn + 20)), .ref qk, .ref qs, .ref qm, .int hs])), (qt, .inl (cT, 2000, .inl (ks_wr (ks_wr (ks_wr (ks_wr (ks_wr ft tn (xs (6 * i + 1))) (tn + 4) (xs (6 * i + 2))) (tn + 8) (xs (6 * i + 3))) (tn + 12) (xs (6 * i + 4))) (tn + 16) (xs (6 * i + 5))))), (qk, .inl (cK, 16, .inl fk)), (qs, .inr (0, [.ref qw, .int (nI n), .int v.1, .int v.2.1, .int v.2.2.1, .int v.2.2.2])), (qw, .inl (cW, 16, .inl wd)), (qm, .inl (cM, 4, .inl fs)), (y0, .inr (2, [.ref ac, .ref au, .ref ab, .ref ae, .ref am, .ref ap, .int (nI (tn + 20)), .ref ak, .ref al, .ref af, .ref an, .int (nI n), .ref ar, .int hs])), (ac, .inl (cJ, 64, .inl ks_k)), (au, .inl (cJ, 16, .inl ks_tt)), (ab, .inl (cJ, 4, .inl ks_begI)), (ae, .inl (cJ, 4, .inl ks_tmI)), (am, .inl (cJ, 4, .inl ks_moI)), (ap, .inl (cJ, 2000, .inl (ks_ly (ks_ly (ks_ly (ks_ly (ks_ly rt tn (xs (6 * i + 1))) (tn + 4) (xs (6 * i + 2))) (tn + 8) (xs (6 * i + 3))) (tn + 12) (xs (6 * i + 4))) (tn + 16) (xs (6 * i + 5))))), (ak, .inl (cJ, 16, .inl rk)), (al, .inl (cJ, 64, .inl bl)), (af, .inl (cJ, 4, .inl fr)), (an, .inl (cJ, 4, .inl fn)), (ar, .inl (cJ, 16, .inl rs))] H := hP
    have hD : va_D (fun q : Nat => s.heap.size ≤ q) [(x0, .inr (1, [.ref qt, .int (nI (tn + 20)), .ref qk, .ref qs, .ref qm, .int hs])), (qt, .inl (cT, 2000, .inl (ks_wr (ks_wr (ks_wr (ks_wr (ks_wr ft tn (xs (6 * i + 1))) (tn + 4) (xs (6 * i + 2))) (tn + 8) (xs (6 * i + 3))) (tn + 12) (xs (6 * i + 4))) (tn + 16) (xs (6 * i + 5))))), (qk, .inl (cK, 16, .inl fk)), (qs, .inr (0, [.ref qw, .int (nI n), .int v.1, .int v.2.1, .int v.2.2.1, .int v.2.2.2])), (qw, .inl (cW, 16, .inl wd)), (qm, .inl (cM, 4, .inl fs)), (y0, .inr (2, [.ref ac, .ref au, .ref ab, .ref ae, .ref am, .ref ap, .int (nI (tn + 20)), .ref ak, .ref al, .ref af, .ref an, .int (nI n), .ref ar, .int hs])), (ac, .inl (cJ, 64, .inl ks_k)), (au, .inl (cJ, 16, .inl ks_tt)), (ab, .inl (cJ, 4, .inl ks_begI)), (ae, .inl (cJ, 4, .inl ks_tmI)), (am, .inl (cJ, 4, .inl ks_moI)), (ap, .inl (cJ, 2000, .inl (ks_ly (ks_ly (ks_ly (ks_ly (ks_ly rt tn (xs (6 * i + 1))) (tn + 4) (xs (6 * i + 2))) (tn + 8) (xs (6 * i + 3))) (tn + 12) (xs (6 * i + 4))) (tn + 16) (xs (6 * i + 5))))), (ak, .inl (cJ, 16, .inl rk)), (al, .inl (cJ, 64, .inl bl)), (af, .inl (cJ, 4, .inl fr)), (an, .inl (cJ, 4, .inl fn)), (ar, .inl (cJ, 16, .inl rs))] := hD
    subst hw
    refine lv_icmp_eq (tgt := 283) hx hb dL_law_134 (by decide) (fun hc => ?_) (fun hc => ?_)
    · skip
      have q1 := ks_wl (xs (6 * i + 1)) r2
      have q2 := ks_wl (xs (6 * i + 2)) q1
      have q3 := ks_wl (xs (6 * i + 3)) q2
      have q4 := ks_wl (xs (6 * i + 4)) q3
      have q5 := ks_wl (xs (6 * i + 5)) q4
      refine lv_iinc (v := nI (6 * (i + 1))) (lv' := [(3, .int (nI (6 * (i + 1)))), (2, .ref y0), (1, .ref x0), (0, .ref b)]) hx hb dL_law_283 hl (k := 0) rfl (by rw [Nat.mul_succ]; exact nI_add (6 * i) 6) (by decide) rfl (fun ls hl => ?_)
      refine lv_goto (tgt := 18) hx hb dL_law_286 (by decide) ?_
      exact K ls H locs ⟨tn + 20, n, hs, v, _, fk, wd, fs, _, rk, bl, fr, fn, rs, f, ⟨by omega, q5, r3, r4, r5, by omega, r7⟩, lv_sub hl [0, 1, 2, 3] rfl, hP, hD, hS⟩
    · skip
      exact absurd rfl hc
  · skip
    refine lv_aload_n hx hb dL_law_76 rfl (lv_at hl 2 rfl) ?_
    refine lv_aload_n hx hb dL_law_77 rfl (lv_at hl 3 rfl) ?_
    refine lv_iload_n hx hb dL_law_78 rfl (lv_at hl 0 rfl) ?_
    refine lv_iconst (v := 1) hx hb dL_law_79 (by decide) ?_
    refine lv_iadd hx hb dL_law_80 ?_
    refine kz_top (y := nI (6 * i + 1)) (nI_add (6 * i) 1) ?_
    refine kz_sld (j := (6 * i + 1)) hx hb hX hbl hbA hS (show (6 * i + 1) < L by omega) (by omega) dL_law_81 ?_
    refine lv_aload_n hx hb dL_law_82 rfl (lv_at hl 3 rfl) ?_
    refine lv_iload_n hx hb dL_law_83 rfl (lv_at hl 0 rfl) ?_
    refine lv_iconst (v := 2) hx hb dL_law_84 (by decide) ?_
    refine lv_iadd hx hb dL_law_85 ?_
    refine kz_top (y := nI (6 * i + 2)) (nI_add (6 * i) 2) ?_
    refine kz_sld (j := (6 * i + 2)) hx hb hX hbl hbA hS (show (6 * i + 2) < L by omega) (by omega) dL_law_86 ?_
    refine lv_aload_n hx hb dL_law_87 rfl (lv_at hl 3 rfl) ?_
    refine lv_iload_n hx hb dL_law_88 rfl (lv_at hl 0 rfl) ?_
    refine lv_iconst (v := 3) hx hb dL_law_89 (by decide) ?_
    refine lv_iadd hx hb dL_law_90 ?_
    refine kz_top (y := nI (6 * i + 3)) (nI_add (6 * i) 3) ?_
    refine kz_sld (j := (6 * i + 3)) hx hb hX hbl hbA hS (show (6 * i + 3) < L by omega) (by omega) dL_law_91 ?_
    refine lv_aload_n hx hb dL_law_92 rfl (lv_at hl 3 rfl) ?_
    refine lv_iload_n hx hb dL_law_93 rfl (lv_at hl 0 rfl) ?_
    refine lv_iconst (v := 4) hx hb dL_law_94 (by decide) ?_
    refine lv_iadd hx hb dL_law_95 ?_
    refine kz_top (y := nI (6 * i + 4)) (nI_add (6 * i) 4) ?_
    refine kz_sld (j := (6 * i + 4)) hx hb hX hbl hbA hS (show (6 * i + 4) < L by omega) (by omega) dL_law_96 ?_
    refine lv_aload_n hx hb dL_law_97 rfl (lv_at hl 3 rfl) ?_
    refine lv_iload_n hx hb dL_law_98 rfl (lv_at hl 0 rfl) ?_
    refine lv_iconst (v := 5) hx hb dL_law_99 (by decide) ?_
    refine lv_iadd hx hb dL_law_100 ?_
    refine kz_top (y := nI (6 * i + 5)) (nI_add (6 * i) 5) ?_
    refine kz_sld (j := (6 * i + 5)) hx hb hX hbl hbA hS (show (6 * i + 5) < L by omega) (by omega) dL_law_101 ?_
    have hPc := hP.sub (ws' := [(x0, .inr (1, [.ref qt, .int (nI tn), .ref qk, .ref qs, .ref qm, .int hs])), (qt, .inl (cT, 2000, .inl ft))]) [0, 1] rfl
    have hDc := hD.sub (ws' := [(x0, .inr (1, [.ref qt, .int (nI tn), .ref qk, .ref qs, .ref qm, .int hs])), (qt, .inl (cT, 2000, .inl ft))]) [0, 1] (by decide) rfl
    have hKc := hK.sub (tys' := [(cT, .byte)]) [0] rfl
    have hFc := va_free (wc := [(x0, .inr (1, [.ref qt, .int (nI tn), .ref qk, .ref qs, .ref qm, .int hs])), (qt, .inl (cT, 2000, .inl ft))]) hD hS hA [0, 1] rfl
    refine va_calli (va_runV (As := [.int (xs (6 * i + 1)), .int (xs (6 * i + 2)), .int (xs (6 * i + 3)), .int (xs (6 * i + 4)), .int (xs (6 * i + 5))]) (rest := []) ⟨hx, hb, hml, hown, hts⟩ (c_feed_no l dC dI H.size x0 qt qk qs qm cT tn hs ft (xs (6 * i + 1)) (xs (6 * i + 2)) (xs (6 * i + 3)) (xs (6 * i + 4)) (xs (6 * i + 5)) (by omega) r1) (cwV 5 hts gL_law_X1_feed rfl rfl rfl (by decide +kernel) ⟨Nat.le_of_ble_eq_true rfl, Nat.le_of_ble_eq_true rfl⟩) ⟨fun a U g mk q => by obtain ⟨q0, q1, qP, qK, qD⟩ := q; exact ⟨q0, q1, qP, va_K.moved (u := U) (U := U.calling g mk a) (Vm.Alike.refl U.vm) qK, qD⟩, va_recv hKc hPc (ci := 1) (q0 := 0) rfl rfl, fun U hU hW => ⟨rfl, by rw [hU], by rw [hU]; exact hPc, va_K.moved hW.alike hKc, hDc.weaken (fun _ _ _ _ => trivial)⟩⟩ rfl rfl hl.1 rfl (lv_room (Nat.le_of_ble_eq_true rfl)) dL_law_102 ⟨Nat.le_of_ble_eq_true rfl, Nat.le_of_ble_eq_true rfl⟩) hS (fun q _ h => hFc q h) hFc (fun r u t H1 locs ht hvm hw hB hz1 hk1 hS => ?_)
    obtain ⟨hP1, hK1, hD1⟩ := hB
    rw [ht] at hP1
    have hK1 := va_K.moved hvm.symm hK1
    try dsimp only at hw
    obtain ⟨hP, hD⟩ := va_join (wr := [(qk, .inl (cK, 16, .inl fk)), (qs, .inr (0, [.ref qw, .int (nI n), .int v.1, .int v.2.1, .int v.2.2.1, .int v.2.2.2])), (qw, .inl (cW, 16, .inl wd)), (qm, .inl (cM, 4, .inl fs)), (y0, .inr (2, [.ref ac, .ref au, .ref ab, .ref ae, .ref am, .ref ap, .int (nI tn), .ref ak, .ref al, .ref af, .ref an, .int (nI n), .ref ar, .int hs])), (ac, .inl (cJ, 64, .inl ks_k)), (au, .inl (cJ, 16, .inl ks_tt)), (ab, .inl (cJ, 4, .inl ks_begI)), (ae, .inl (cJ, 4, .inl ks_tmI)), (am, .inl (cJ, 4, .inl ks_moI)), (ap, .inl (cJ, 2000, .inl rt)), (ak, .inl (cJ, 16, .inl rk)), (al, .inl (cJ, 64, .inl bl)), (af, .inl (cJ, 4, .inl fr)), (an, .inl (cJ, 4, .inl fn)), (ar, .inl (cJ, 16, .inl rs))]) (w1 := [(x0, .inr (1, [.ref qt, .int (nI tn), .ref qk, .ref qs, .ref qm, .int hs])), (qt, .inl (cT, 2000, .inl ft))]) hP hD [0, 1] [2, 3, 4, 5, 6, 7, 8, 9, 10, 11, 12, 13, 14, 15, 16, 17] rfl rfl (by decide) (by decide) hk1 hFc hP1 hD1
    have hP := hP.sub (ws' := [(x0, .inr (1, [.ref qt, .int (nI tn), .ref qk, .ref qs, .ref qm, .int hs])), (qt, .inl (cT, 2000, .inl ft)), (qk, .inl (cK, 16, .inl fk)), (qs, .inr (0, [.ref qw, .int (nI n), .int v.1, .int v.2.1, .int v.2.2.1, .int v.2.2.2])), (qw, .inl (cW, 16, .inl wd)), (qm, .inl (cM, 4, .inl fs)), (y0, .inr (2, [.ref ac, .ref au, .ref ab, .ref ae, .ref am, .ref ap, .int (nI tn), .ref ak, .ref al, .ref af, .ref an, .int (nI n), .ref ar, .int hs])), (ac, .inl (cJ, 64, .inl ks_k)), (au, .inl (cJ, 16, .inl ks_tt)), (ab, .inl (cJ, 4, .inl ks_begI)), (ae, .inl (cJ, 4, .inl ks_tmI)), (am, .inl (cJ, 4, .inl ks_moI)), (ap, .inl (cJ, 2000, .inl rt)), (ak, .inl (cJ, 16, .inl rk)), (al, .inl (cJ, 64, .inl bl)), (af, .inl (cJ, 4, .inl fr)), (an, .inl (cJ, 4, .inl fn)), (ar, .inl (cJ, 16, .inl rs))]) [16, 17, 0, 1, 2, 3, 4, 5, 6, 7, 8, 9, 10, 11, 12, 13, 14, 15] rfl
    have hD := hD.sub (ws' := [(x0, .inr (1, [.ref qt, .int (nI tn), .ref qk, .ref qs, .ref qm, .int hs])), (qt, .inl (cT, 2000, .inl ft)), (qk, .inl (cK, 16, .inl fk)), (qs, .inr (0, [.ref qw, .int (nI n), .int v.1, .int v.2.1, .int v.2.2.1, .int v.2.2.2])), (qw, .inl (cW, 16, .inl wd)), (qm, .inl (cM, 4, .inl fs)), (y0, .inr (2, [.ref ac, .ref au, .ref ab, .ref ae, .ref am, .ref ap, .int (nI tn), .ref ak, .ref al, .ref af, .ref an, .int (nI n), .ref ar, .int hs])), (ac, .inl (cJ, 64, .inl ks_k)), (au, .inl (cJ, 16, .inl ks_tt)), (ab, .inl (cJ, 4, .inl ks_begI)), (ae, .inl (cJ, 4, .inl ks_tmI)), (am, .inl (cJ, 4, .inl ks_moI)), (ap, .inl (cJ, 2000, .inl rt)), (ak, .inl (cJ, 16, .inl rk)), (al, .inl (cJ, 64, .inl bl)), (af, .inl (cJ, 4, .inl fr)), (an, .inl (cJ, 4, .inl fn)), (ar, .inl (cJ, 16, .inl rs))]) [16, 17, 0, 1, 2, 3, 4, 5, 6, 7, 8, 9, 10, 11, 12, 13, 14, 15] (by decide) rfl
    generalize H1 = H at hP hS ⊢
    have hP : va_P (dC, dI) vwCl [(x0, .inr (1, [.ref qt, .int (nI tn), .ref qk, .ref qs, .ref qm, .int hs])), (qt, .inl (cT, 2000, .inl ft)), (qk, .inl (cK, 16, .inl fk)), (qs, .inr (0, [.ref qw, .int (nI n), .int v.1, .int v.2.1, .int v.2.2.1, .int v.2.2.2])), (qw, .inl (cW, 16, .inl wd)), (qm, .inl (cM, 4, .inl fs)), (y0, .inr (2, [.ref ac, .ref au, .ref ab, .ref ae, .ref am, .ref ap, .int (nI tn), .ref ak, .ref al, .ref af, .ref an, .int (nI n), .ref ar, .int hs])), (ac, .inl (cJ, 64, .inl ks_k)), (au, .inl (cJ, 16, .inl ks_tt)), (ab, .inl (cJ, 4, .inl ks_begI)), (ae, .inl (cJ, 4, .inl ks_tmI)), (am, .inl (cJ, 4, .inl ks_moI)), (ap, .inl (cJ, 2000, .inl rt)), (ak, .inl (cJ, 16, .inl rk)), (al, .inl (cJ, 64, .inl bl)), (af, .inl (cJ, 4, .inl fr)), (an, .inl (cJ, 4, .inl fn)), (ar, .inl (cJ, 16, .inl rs))] H := hP
    have hD : va_D (fun q : Nat => s.heap.size ≤ q) [(x0, .inr (1, [.ref qt, .int (nI tn), .ref qk, .ref qs, .ref qm, .int hs])), (qt, .inl (cT, 2000, .inl ft)), (qk, .inl (cK, 16, .inl fk)), (qs, .inr (0, [.ref qw, .int (nI n), .int v.1, .int v.2.1, .int v.2.2.1, .int v.2.2.2])), (qw, .inl (cW, 16, .inl wd)), (qm, .inl (cM, 4, .inl fs)), (y0, .inr (2, [.ref ac, .ref au, .ref ab, .ref ae, .ref am, .ref ap, .int (nI tn), .ref ak, .ref al, .ref af, .ref an, .int (nI n), .ref ar, .int hs])), (ac, .inl (cJ, 64, .inl ks_k)), (au, .inl (cJ, 16, .inl ks_tt)), (ab, .inl (cJ, 4, .inl ks_begI)), (ae, .inl (cJ, 4, .inl ks_tmI)), (am, .inl (cJ, 4, .inl ks_moI)), (ap, .inl (cJ, 2000, .inl rt)), (ak, .inl (cJ, 16, .inl rk)), (al, .inl (cJ, 64, .inl bl)), (af, .inl (cJ, 4, .inl fr)), (an, .inl (cJ, 4, .inl fn)), (ar, .inl (cJ, 16, .inl rs))] := hD
    subst hw
    refine lv_aload_n hx hb dL_law_105 rfl (lv_at hl 1 rfl) ?_
    refine lv_aload_n hx hb dL_law_106 rfl (lv_at hl 3 rfl) ?_
    refine lv_iload_n hx hb dL_law_107 rfl (lv_at hl 0 rfl) ?_
    refine lv_iconst (v := 1) hx hb dL_law_108 (by decide) ?_
    refine lv_iadd hx hb dL_law_109 ?_
    refine kz_top (y := nI (6 * i + 1)) (nI_add (6 * i) 1) ?_
    refine kz_sld (j := (6 * i + 1)) hx hb hX hbl hbA hS (show (6 * i + 1) < L by omega) (by omega) dL_law_110 ?_
    refine lv_aload_n hx hb dL_law_111 rfl (lv_at hl 3 rfl) ?_
    refine lv_iload_n hx hb dL_law_112 rfl (lv_at hl 0 rfl) ?_
    refine lv_iconst (v := 2) hx hb dL_law_113 (by decide) ?_
    refine lv_iadd hx hb dL_law_114 ?_
    refine kz_top (y := nI (6 * i + 2)) (nI_add (6 * i) 2) ?_
    refine kz_sld (j := (6 * i + 2)) hx hb hX hbl hbA hS (show (6 * i + 2) < L by omega) (by omega) dL_law_115 ?_
    refine lv_aload_n hx hb dL_law_116 rfl (lv_at hl 3 rfl) ?_
    refine lv_iload_n hx hb dL_law_117 rfl (lv_at hl 0 rfl) ?_
    refine lv_iconst (v := 3) hx hb dL_law_118 (by decide) ?_
    refine lv_iadd hx hb dL_law_119 ?_
    refine kz_top (y := nI (6 * i + 3)) (nI_add (6 * i) 3) ?_
    refine kz_sld (j := (6 * i + 3)) hx hb hX hbl hbA hS (show (6 * i + 3) < L by omega) (by omega) dL_law_120 ?_
    refine lv_aload_n hx hb dL_law_121 rfl (lv_at hl 3 rfl) ?_
    refine lv_iload_n hx hb dL_law_122 rfl (lv_at hl 0 rfl) ?_
    refine lv_iconst (v := 4) hx hb dL_law_123 (by decide) ?_
    refine lv_iadd hx hb dL_law_124 ?_
    refine kz_top (y := nI (6 * i + 4)) (nI_add (6 * i) 4) ?_
    refine kz_sld (j := (6 * i + 4)) hx hb hX hbl hbA hS (show (6 * i + 4) < L by omega) (by omega) dL_law_125 ?_
    refine lv_aload_n hx hb dL_law_126 rfl (lv_at hl 3 rfl) ?_
    refine lv_iload_n hx hb dL_law_127 rfl (lv_at hl 0 rfl) ?_
    refine lv_iconst (v := 5) hx hb dL_law_128 (by decide) ?_
    refine lv_iadd hx hb dL_law_129 ?_
    refine kz_top (y := nI (6 * i + 5)) (nI_add (6 * i) 5) ?_
    refine kz_sld (j := (6 * i + 5)) hx hb hX hbl hbA hS (show (6 * i + 5) < L by omega) (by omega) dL_law_130 ?_
    have hPc := hP.sub (ws' := [(y0, .inr (2, [.ref ac, .ref au, .ref ab, .ref ae, .ref am, .ref ap, .int (nI tn), .ref ak, .ref al, .ref af, .ref an, .int (nI n), .ref ar, .int hs])), (ap, .inl (cJ, 2000, .inl rt))]) [6, 12] rfl
    have hDc := hD.sub (ws' := [(y0, .inr (2, [.ref ac, .ref au, .ref ab, .ref ae, .ref am, .ref ap, .int (nI tn), .ref ak, .ref al, .ref af, .ref an, .int (nI n), .ref ar, .int hs])), (ap, .inl (cJ, 2000, .inl rt))]) [6, 12] (by decide) rfl
    have hKc := hK.sub (tys' := [(cJ, .int)]) [4] rfl
    have hFc := va_free (wc := [(y0, .inr (2, [.ref ac, .ref au, .ref ab, .ref ae, .ref am, .ref ap, .int (nI tn), .ref ak, .ref al, .ref af, .ref an, .int (nI n), .ref ar, .int hs])), (ap, .inl (cJ, 2000, .inl rt))]) hD hS hA [6, 12] rfl
    refine va_calli (va_runV (As := [.int (xs (6 * i + 1)), .int (xs (6 * i + 2)), .int (xs (6 * i + 3)), .int (xs (6 * i + 4)), .int (xs (6 * i + 5))]) (rest := [.int 0]) ⟨hx, hb, hml, hown, hts⟩ (r_feed_no l dC dI H.size y0 ac au ab ae am ap ak al af an ar cJ tn (nI n) hs rt (xs (6 * i + 1)) (xs (6 * i + 2)) (xs (6 * i + 3)) (xs (6 * i + 4)) (xs (6 * i + 5)) (by omega) r1) (cwV 5 hts gL_law_X2_feed rfl rfl rfl (by decide +kernel) ⟨Nat.le_of_ble_eq_true rfl, Nat.le_of_ble_eq_true rfl⟩) ⟨fun a U g mk q => by obtain ⟨q0, q1, qP, qK, qD⟩ := q; exact ⟨q0, q1, qP, va_K.moved (u := U) (U := U.calling g mk a) (Vm.Alike.refl U.vm) qK, qD⟩, va_recv hKc hPc (ci := 2) (q0 := 0) rfl rfl, fun U hU hW => ⟨rfl, by rw [hU], by rw [hU]; exact hPc, va_K.moved hW.alike hKc, hDc.weaken (fun _ _ _ _ => trivial)⟩⟩ rfl rfl hl.1 rfl (lv_room (Nat.le_of_ble_eq_true rfl)) dL_law_131 ⟨Nat.le_of_ble_eq_true rfl, Nat.le_of_ble_eq_true rfl⟩) hS (fun q _ h => hFc q h) hFc (fun r u t H1 locs ht hvm hw hB hz1 hk1 hS => ?_)
    obtain ⟨hP1, hK1, hD1⟩ := hB
    rw [ht] at hP1
    have hK1 := va_K.moved hvm.symm hK1
    try dsimp only at hw
    obtain ⟨hP, hD⟩ := va_join (wr := [(x0, .inr (1, [.ref qt, .int (nI tn), .ref qk, .ref qs, .ref qm, .int hs])), (qt, .inl (cT, 2000, .inl ft)), (qk, .inl (cK, 16, .inl fk)), (qs, .inr (0, [.ref qw, .int (nI n), .int v.1, .int v.2.1, .int v.2.2.1, .int v.2.2.2])), (qw, .inl (cW, 16, .inl wd)), (qm, .inl (cM, 4, .inl fs)), (ac, .inl (cJ, 64, .inl ks_k)), (au, .inl (cJ, 16, .inl ks_tt)), (ab, .inl (cJ, 4, .inl ks_begI)), (ae, .inl (cJ, 4, .inl ks_tmI)), (am, .inl (cJ, 4, .inl ks_moI)), (ak, .inl (cJ, 16, .inl rk)), (al, .inl (cJ, 64, .inl bl)), (af, .inl (cJ, 4, .inl fr)), (an, .inl (cJ, 4, .inl fn)), (ar, .inl (cJ, 16, .inl rs))]) (w1 := [(y0, .inr (2, [.ref ac, .ref au, .ref ab, .ref ae, .ref am, .ref ap, .int (nI tn), .ref ak, .ref al, .ref af, .ref an, .int (nI n), .ref ar, .int hs])), (ap, .inl (cJ, 2000, .inl rt))]) hP hD [6, 12] [0, 1, 2, 3, 4, 5, 7, 8, 9, 10, 11, 13, 14, 15, 16, 17] rfl rfl (by decide) (by decide) hk1 hFc hP1 hD1
    have hP := hP.sub (ws' := [(x0, .inr (1, [.ref qt, .int (nI tn), .ref qk, .ref qs, .ref qm, .int hs])), (qt, .inl (cT, 2000, .inl ft)), (qk, .inl (cK, 16, .inl fk)), (qs, .inr (0, [.ref qw, .int (nI n), .int v.1, .int v.2.1, .int v.2.2.1, .int v.2.2.2])), (qw, .inl (cW, 16, .inl wd)), (qm, .inl (cM, 4, .inl fs)), (y0, .inr (2, [.ref ac, .ref au, .ref ab, .ref ae, .ref am, .ref ap, .int (nI tn), .ref ak, .ref al, .ref af, .ref an, .int (nI n), .ref ar, .int hs])), (ac, .inl (cJ, 64, .inl ks_k)), (au, .inl (cJ, 16, .inl ks_tt)), (ab, .inl (cJ, 4, .inl ks_begI)), (ae, .inl (cJ, 4, .inl ks_tmI)), (am, .inl (cJ, 4, .inl ks_moI)), (ap, .inl (cJ, 2000, .inl rt)), (ak, .inl (cJ, 16, .inl rk)), (al, .inl (cJ, 64, .inl bl)), (af, .inl (cJ, 4, .inl fr)), (an, .inl (cJ, 4, .inl fn)), (ar, .inl (cJ, 16, .inl rs))]) [0, 1, 2, 3, 4, 5, 16, 6, 7, 8, 9, 10, 17, 11, 12, 13, 14, 15] rfl
    have hD := hD.sub (ws' := [(x0, .inr (1, [.ref qt, .int (nI tn), .ref qk, .ref qs, .ref qm, .int hs])), (qt, .inl (cT, 2000, .inl ft)), (qk, .inl (cK, 16, .inl fk)), (qs, .inr (0, [.ref qw, .int (nI n), .int v.1, .int v.2.1, .int v.2.2.1, .int v.2.2.2])), (qw, .inl (cW, 16, .inl wd)), (qm, .inl (cM, 4, .inl fs)), (y0, .inr (2, [.ref ac, .ref au, .ref ab, .ref ae, .ref am, .ref ap, .int (nI tn), .ref ak, .ref al, .ref af, .ref an, .int (nI n), .ref ar, .int hs])), (ac, .inl (cJ, 64, .inl ks_k)), (au, .inl (cJ, 16, .inl ks_tt)), (ab, .inl (cJ, 4, .inl ks_begI)), (ae, .inl (cJ, 4, .inl ks_tmI)), (am, .inl (cJ, 4, .inl ks_moI)), (ap, .inl (cJ, 2000, .inl rt)), (ak, .inl (cJ, 16, .inl rk)), (al, .inl (cJ, 64, .inl bl)), (af, .inl (cJ, 4, .inl fr)), (an, .inl (cJ, 4, .inl fn)), (ar, .inl (cJ, 16, .inl rs))]) [0, 1, 2, 3, 4, 5, 16, 6, 7, 8, 9, 10, 17, 11, 12, 13, 14, 15] (by decide) rfl
    generalize H1 = H at hP hS ⊢
    have hP : va_P (dC, dI) vwCl [(x0, .inr (1, [.ref qt, .int (nI tn), .ref qk, .ref qs, .ref qm, .int hs])), (qt, .inl (cT, 2000, .inl ft)), (qk, .inl (cK, 16, .inl fk)), (qs, .inr (0, [.ref qw, .int (nI n), .int v.1, .int v.2.1, .int v.2.2.1, .int v.2.2.2])), (qw, .inl (cW, 16, .inl wd)), (qm, .inl (cM, 4, .inl fs)), (y0, .inr (2, [.ref ac, .ref au, .ref ab, .ref ae, .ref am, .ref ap, .int (nI tn), .ref ak, .ref al, .ref af, .ref an, .int (nI n), .ref ar, .int hs])), (ac, .inl (cJ, 64, .inl ks_k)), (au, .inl (cJ, 16, .inl ks_tt)), (ab, .inl (cJ, 4, .inl ks_begI)), (ae, .inl (cJ, 4, .inl ks_tmI)), (am, .inl (cJ, 4, .inl ks_moI)), (ap, .inl (cJ, 2000, .inl rt)), (ak, .inl (cJ, 16, .inl rk)), (al, .inl (cJ, 64, .inl bl)), (af, .inl (cJ, 4, .inl fr)), (an, .inl (cJ, 4, .inl fn)), (ar, .inl (cJ, 16, .inl rs))] H := hP
    have hD : va_D (fun q : Nat => s.heap.size ≤ q) [(x0, .inr (1, [.ref qt, .int (nI tn), .ref qk, .ref qs, .ref qm, .int hs])), (qt, .inl (cT, 2000, .inl ft)), (qk, .inl (cK, 16, .inl fk)), (qs, .inr (0, [.ref qw, .int (nI n), .int v.1, .int v.2.1, .int v.2.2.1, .int v.2.2.2])), (qw, .inl (cW, 16, .inl wd)), (qm, .inl (cM, 4, .inl fs)), (y0, .inr (2, [.ref ac, .ref au, .ref ab, .ref ae, .ref am, .ref ap, .int (nI tn), .ref ak, .ref al, .ref af, .ref an, .int (nI n), .ref ar, .int hs])), (ac, .inl (cJ, 64, .inl ks_k)), (au, .inl (cJ, 16, .inl ks_tt)), (ab, .inl (cJ, 4, .inl ks_begI)), (ae, .inl (cJ, 4, .inl ks_tmI)), (am, .inl (cJ, 4, .inl ks_moI)), (ap, .inl (cJ, 2000, .inl rt)), (ak, .inl (cJ, 16, .inl rk)), (al, .inl (cJ, 64, .inl bl)), (af, .inl (cJ, 4, .inl fr)), (an, .inl (cJ, 4, .inl fn)), (ar, .inl (cJ, 16, .inl rs))] := hD
    subst hw
    refine lv_icmp_eq (tgt := 283) hx hb dL_law_134 (by decide) (fun hc => ?_) (fun hc => ?_)
    · skip
      refine lv_iinc (v := nI (6 * (i + 1))) (lv' := [(3, .int (nI (6 * (i + 1)))), (2, .ref y0), (1, .ref x0), (0, .ref b)]) hx hb dL_law_283 hl (k := 0) rfl (by rw [Nat.mul_succ]; exact nI_add (6 * i) 6) (by decide) rfl (fun ls hl => ?_)
      refine lv_goto (tgt := 18) hx hb dL_law_286 (by decide) ?_
      exact K ls H locs ⟨tn, n, hs, v, ft, fk, wd, fs, rt, rk, bl, fr, fn, rs, f, ⟨r1, r2, r3, r4, r5, by omega, r7⟩, lv_sub hl [0, 1, 2, 3] rfl, hP, hD, hS⟩
    · skip
      exact absurd rfl hc
