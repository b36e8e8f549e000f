set_option maxRecDepth 100000 in
theorem lw_sin : ∀ j, j < 64 → Cond.eq (.elem (.static "KeySums$Summer" "SINES" "[I") (.int (Int32.ofNat j))) (.int (ks_k j)) ∈ flatC (Jvm.Cond.and given_1 narrow_1) := by decide +kernel
set_option maxRecDepth 100000 in
theorem lw_tur : ∀ j, j < 16 → Cond.eq (.elem (.static "KeySums$Summer" "TURNS" "[I") (.int (Int32.ofNat j))) (.int (ks_tt j)) ∈ flatC (Jvm.Cond.and given_1 narrow_1) := by decide +kernel
set_option maxRecDepth 100000 in
theorem lw_tabs {s : State} {b : Nat} (hts : ∀ w ∈ lw_tbl, w.before #[Value.ref b] s = true) (hgv : (Jvm.Cond.and given_1 narrow_1).before #[Value.ref b] s = true) : ∃ tS tT : Nat, ks_tab tS tT (fun q : Nat => s.heap.size ≤ q) s s.heap := by
  have hs := flat_of_before _ hgv
  have hA : ∀ a : Nat, a < s.heap.size → ¬ (fun q : Nat => s.heap.size ≤ q) a := fun a h => Nat.not_le.mpr h
  obtain ⟨tS, h1, h2⟩ := va_Tof (tm := .static "KeySums$Summer" "SINES" "[I") (ty := .int) (N := 64) (f := fun j => .int (ks_k j)) (by decide) (hs _ (by decide +kernel)) (va_eqt (z := 64) (hs _ (by decide +kernel))) (fun j hj => va_eqt (hs _ (lw_sin j hj))) hA
  obtain ⟨tT, h3, h4⟩ := va_Tof (tm := .static "KeySums$Summer" "TURNS" "[I") (ty := .int) (N := 16) (f := fun j => .int (ks_tt j)) (by decide) (hs _ (by decide +kernel)) (va_eqt (z := 16) (hs _ (by decide +kernel))) (fun j hj => va_eqt (hs _ (lw_tur j hj))) hA
  exact ⟨tS, tT, va_Zref (hts (.laysStatic "KeySums$Summer" "SINES" "[I") (by decide +kernel)) (hts (.initialized "KeySums$Summer") (by decide +kernel)) h1 hA, h2, va_Zref (hts (.laysStatic "KeySums$Summer" "TURNS" "[I") (by decide +kernel)) (hts (.initialized "KeySums$Summer") (by decide +kernel)) h3 hA, h4⟩
set_option maxRecDepth 100000 in
theorem lw_nest {s : State} {b : Nat} (hts : ∀ w ∈ lw_tbl, w.before #[Value.ref b] s = true) : ks_nw s := ⟨va_Nw.of rfl (hts (.fieldLinkNest RX1 43 "KeySums$Summer" "count" "I" "KeySums") (by decide +kernel)), va_Nw.of rfl (hts (.fieldLinkNest RX1 49 "KeySums$Summer" "a" "I" "KeySums") (by decide +kernel)), va_Nw.of rfl (hts (.fieldLinkNest RX1 52 "KeySums$Summer" "b" "I" "KeySums") (by decide +kernel)), va_Nw.of rfl (hts (.fieldLinkNest RX1 55 "KeySums$Summer" "c" "I" "KeySums") (by decide +kernel)), va_Nw.of rfl (hts (.fieldLinkNest RX1 58 "KeySums$Summer" "d" "I" "KeySums") (by decide +kernel)), va_Nw.of rfl (hts (.methodLinkNest RX1 22 yX0_init "KeySums") (by decide +kernel)), va_Nw.of rfl (hts (.methodLinkNest RX1 39 yX0_take "KeySums") (by decide +kernel)), va_Nw.of rfl (hts (.methodLinkNest RX1 46 yX0_close "KeySums") (by decide +kernel)), va_Nw.of rfl (hts (.methodLinkNest RX1 61 yX0_restart "KeySums") (by decide +kernel))⟩
set_option maxHeartbeats 4000000 in
set_option maxRecDepth 100000 in
theorem whole_start {p : Program} {e : Env} {s : State} {m : MethodId} {below : List Frame} {meth : Method} {c : Code} (l : Launch) {b L : Nat} {xs : Nat → Int32} (hL : L ≤ 3072) (C0 : lw_At p s m meth c b L xs) : W p l e room_1 s m #[Value.ref b] below meth c s.heap [] 0 0 (lw_Z below #[Value.ref b] s) (entryFrame m ([Value.ref b] : List Value).toArray 4) := by
  have C1 := C0
  obtain ⟨hx, hb, hret, hml, hown, hts, hX, hbl, hlocks, hgv⟩ := C0
  have hown : s.vm.findClass RL = some m.cls := hown
  have hA : ∀ q : Nat, s.heap.size ≤ q → (fun q : Nat => s.heap.size ≤ q) q := fun _ h => h
  have hbA : ¬ (fun q : Nat => s.heap.size ≤ q) b := Nat.not_le.mpr hbl
  obtain ⟨tS, tT, hT⟩ := lw_tabs hts hgv
  have hN := lw_nest hts
  obtain ⟨c0, iS0, hKn0⟩ := u_known (C := RX0) (T := TX0) (N := 6) (n := 6) hts inX0 (hts (.instantiable RX0 6) (by decide +kernel))
  obtain ⟨c1, iS1, hKn1⟩ := u_known (C := RX1) (T := TX1) (N := 6) (n := 6) hts inX1 (hts (.instantiable RX1 6) (by decide +kernel))
  obtain ⟨c2, iS2, hKn2⟩ := u_known (C := RX2) (T := TX2) (N := 14) (n := 14) hts inX2 (hts (.instantiable RX2 14) (by decide +kernel))
  obtain ⟨dC, dI, hKc⟩ : ∃ (dC : Nat → ClassId) (dI : Nat → Nat → Nat), ∀ (k : Nat) (q : vw_C), vwCl[k]? = some q → u_Kn s q.1 q.2.1 q.2.2 (dC k) (dI k) := by
    refine ⟨fun k => if k = 0 then c0 else if k = 1 then c1 else c2, fun k => if k = 0 then iS0 else if k = 1 then iS1 else iS2, ?_⟩
    intro k q hq
    match k, hq with
    | 0, hq => cases hq; exact hKn0
    | 1, hq => cases hq; exact hKn1
    | 2, hq => cases hq; exact hKn2
    | k + 3, hq => simp [vwCl] at hq
  have hS : va_S (fun q : Nat => s.heap.size ≤ q) s.heap s.heap [] := va_S.rf
  have hK : va_K (dC, dI) vwCl [] s := ⟨hKc, fun k q h => by simp at h⟩
  have hP : va_P (dC, dI) vwCl [] s.heap := fun k q h => by simp at h
  have hD : va_D (fun q : Nat => s.heap.size ≤ q) [] := ⟨fun i j p q h => by simp at h, fun k q h => by simp at h⟩
  have hl := lv_entry ([.ref b]) (n := 4) (Nat.le_of_ble_eq_true rfl)
  rw [lg_entry_eq]
  generalize (lg_sl ([.ref b]) ++ List.replicate (4 - (lg_sl ([.ref b])).length) Slot.unset).toArray = ls at hl ⊢
  have hl : lv_has ls 4 [(0, .ref b)] := hl
  refine va_new (ci := 1) (fs := [.null, .int 0, .null, .null, .null, .int 0]) (C := RX1) (T := TX1) (N := 6) hx hb hts inX1 tyX1 tyX1_ok hown (hts (.classLink RL 7 RX1) (by decide +kernel)) (hts (.instantiable RX1 6) (by decide +kernel)) (hts (.initialized RX1) (by decide +kernel)) hK hP hD hS hA rfl (fun j hj => by rcases (show j = 0 ∨ j = 1 ∨ j = 2 ∨ j = 3 ∨ j = 4 ∨ j = 5 by omega) with rfl | rfl | rfl | rfl | rfl | rfl <;> rfl) (Nat.le_of_ble_eq_true rfl) (Nat.le_of_ble_eq_true rfl) dL_law_0 (fun x0 H hP hD hS => ?_)
  have hP : va_P (dC, dI) vwCl [(x0, .inr (1, [.null, .int 0, .null, .null, .null, .int 0]))] H := hP
  have hD : va_D (fun q : Nat => s.heap.size ≤ q) [(x0, .inr (1, [.null, .int 0, .null, .null, .null, .int 0]))] := hD
  refine W.widen (k := 1) (n := 6) (Nat.le_of_ble_eq_true rfl) (Nat.le_of_ble_eq_true rfl) ?_
  refine lv_dup hx hb dL_law_3 rfl ?_
  have hPc := hP.sub (ws' := [(x0, .inr (1, [.null, .int 0, .null, .null, .null, .int 0]))]) [0] rfl
  have hDc := hD.sub (ws' := [(x0, .inr (1, [.null, .int 0, .null, .null, .null, .int 0]))]) [0] (by decide) rfl
  have hKc := hK.sub (tys' := []) [] rfl
  have hFc := va_free (wc := [(x0, .inr (1, [.null, .int 0, .null, .null, .null, .int 0]))]) hD hS hA [0] rfl
  refine va_callv (va_runI (As := []) (rest := [.ref x0]) ⟨hx, hb, hml, hown, hts⟩ (c_Kinit l dC dI H.size x0) (cwI 0 hts gL_law_X1_init rfl rfl rfl (hts (.initialized RX1) (by decide +kernel)) (hts (.methodLink RL 9 yX1_init) (by decide +kernel)) (hts (.instanceMethod yX1_init) (by decide +kernel)) rfl (by decide +kernel) ⟨Nat.le_of_ble_eq_true rfl, Nat.le_of_ble_eq_true rfl⟩) ⟨fun a U g mk q => by obtain ⟨q0, q1, qP, qK, qD, qx0⟩ := q; exact ⟨q0, q1, qP, va_K.moved (u := U) (U := U.calling g mk a) (Vm.Alike.refl U.vm) qK, qD, ks_nw.same (u := U) (U := U.calling g mk a) rfl qx0⟩, fun U hU hW => ⟨rfl, by rw [hU], by rw [hU]; exact hPc, va_K.moved hW.alike hKc, hDc.weaken (fun _ _ _ _ => trivial), hN.warm hW⟩⟩ rfl rfl hl.1 rfl (lv_room (Nat.le_of_ble_eq_true rfl)) dL_law_4 ⟨Nat.le_of_ble_eq_true rfl, Nat.le_of_ble_eq_true rfl⟩) hS (fun q _ h => hFc q h) hFc (fun u t H1 locs ht hvm hw hB hz1 hk1 hS => ?_)
  obtain ⟨qt, qk, qs, qw, qm, cT, cK, cW, cM, hP1, hK1, hD1⟩ := hB
  rw [ht] at hP1
  have hK1 := va_K.moved hvm.symm hK1
  try dsimp only at hw
  obtain ⟨hP, hD⟩ := va_join (wr := []) (w1 := [(x0, .inr (1, [.ref qt, .int (nI 0), .ref qk, .ref qs, .ref qm, .int 0])), (qt, .inl (cT, 2000, .inl (fun _ => 0))), (qk, .inl (cK, 16, .inl (fun _ => 0))), (qs, .inr (0, [.ref qw, .int (nI 0), .int 1732584193, .int (-271733879), .int (-1732584194), .int 271733878])), (qw, .inl (cW, 16, .inl (fun _ => 0))), (qm, .inl (cM, 4, .inl (fun _ => 0)))]) hP hD [0] [] rfl rfl (by decide) (by decide) hk1 hFc hP1 hD1
  have hK := (hK.sub (tys' := []) [] rfl).app hK1
  generalize H1 = H at hP hS ⊢
  have hP : va_P (dC, dI) vwCl [(x0, .inr (1, [.ref qt, .int (nI 0), .ref qk, .ref qs, .ref qm, .int 0])), (qt, .inl (cT, 2000, .inl (fun _ => 0))), (qk, .inl (cK, 16, .inl (fun _ => 0))), (qs, .inr (0, [.ref qw, .int (nI 0), .int 1732584193, .int (-271733879), .int (-1732584194), .int 271733878])), (qw, .inl (cW, 16, .inl (fun _ => 0))), (qm, .inl (cM, 4, .inl (fun _ => 0)))] H := hP
  have hD : va_D (fun q : Nat => s.heap.size ≤ q) [(x0, .inr (1, [.ref qt, .int (nI 0), .ref qk, .ref qs, .ref qm, .int 0])), (qt, .inl (cT, 2000, .inl (fun _ => 0))), (qk, .inl (cK, 16, .inl (fun _ => 0))), (qs, .inr (0, [.ref qw, .int (nI 0), .int 1732584193, .int (-271733879), .int (-1732584194), .int 271733878])), (qw, .inl (cW, 16, .inl (fun _ => 0))), (qm, .inl (cM, 4, .inl (fun _ => 0)))] := hD
  have hK : va_K (dC, dI) vwCl [(cT, .byte), (cK, .byte), (cW, .int), (cM, .int)] s := hK
  refine W.widen (k := 6) (n := 2048) (Nat.le_of_ble_eq_true rfl) (Nat.le_of_ble_eq_true rfl) ?_
  refine lv_astore_n (lv' := [(1, .ref x0), (0, .ref b)]) hx hb dL_law_7 rfl hl (by decide) rfl (fun ls hl => ?_)
  refine va_new (ci := 2) (fs := [.null, .null, .null, .null, .null, .null, .int 0, .null, .null, .null, .null, .int 0, .null, .int 0]) (C := RX2) (T := TX2) (N := 14) hx hb hts inX2 tyX2 tyX2_ok hown (hts (.classLink RL 10 RX2) (by decide +kernel)) (hts (.instantiable RX2 14) (by decide +kernel)) (hts (.initialized RX2) (by decide +kernel)) hK hP hD hS hA rfl (fun j hj => by rcases (show j = 0 ∨ j = 1 ∨ j = 2 ∨ j = 3 ∨ j = 4 ∨ j = 5 ∨ j = 6 ∨ j = 7 ∨ j = 8 ∨ j = 9 ∨ j = 10 ∨ j = 11 ∨ j = 12 ∨ j = 13 by omega) with rfl | rfl | rfl | rfl | rfl | rfl | rfl | rfl | rfl | rfl | rfl | rfl | rfl | rfl <;> rfl) (Nat.le_of_ble_eq_true rfl) (Nat.le_of_ble_eq_true rfl) dL_law_8 (fun y0 H hP hD hS => ?_)
  have hP : va_P (dC, dI) vwCl [(x0, .inr (1, [.ref qt, .int (nI 0), .ref qk, .ref qs, .ref qm, .int 0])), (qt, .inl (cT, 2000, .inl (fun _ => 0))), (qk, .inl (cK, 16, .inl (fun _ => 0))), (qs, .inr (0, [.ref qw, .int (nI 0), .int 1732584193, .int (-271733879), .int (-1732584194), .int 271733878])), (qw, .inl (cW, 16, .inl (fun _ => 0))), (qm, .inl (cM, 4, .inl (fun _ => 0))), (y0, .inr (2, [.null, .null, .null, .null, .null, .null, .int 0, .null, .null, .null, .null, .int 0, .null, .int 0]))] H := hP
  have hD : va_D (fun q : Nat => s.heap.size ≤ q) [(x0, .inr (1, [.ref qt, .int (nI 0), .ref qk, .ref qs, .ref qm, .int 0])), (qt, .inl (cT, 2000, .inl (fun _ => 0))), (qk, .inl (cK, 16, .inl (fun _ => 0))), (qs, .inr (0, [.ref qw, .int (nI 0), .int 1732584193, .int (-271733879), .int (-1732584194), .int 271733878])), (qw, .inl (cW, 16, .inl (fun _ => 0))), (qm, .inl (cM, 4, .inl (fun _ => 0))), (y0, .inr (2, [.null, .null, .null, .null, .null, .null, .int 0, .null, .null, .null, .null, .int 0, .null, .int 0]))] := hD
  refine W.widen (k := 7) (n := 2062) (Nat.le_of_ble_eq_true rfl) (Nat.le_of_ble_eq_true rfl) ?_
  refine lv_dup hx hb dL_law_11 rfl ?_
  have hPc := hP.sub (ws' := [(y0, .inr (2, [.null, .null, .null, .null, .null, .null, .int 0, .null, .null, .null, .null, .int 0, .null, .int 0]))]) [6] rfl
  have hDc := hD.sub (ws' := [(y0, .inr (2, [.null, .null, .null, .null, .null, .null, .int 0, .null, .null, .null, .null, .int 0, .null, .int 0]))]) [6] (by decide) rfl
  have hKc := hK.sub (tys' := []) [] rfl
  have hFc := va_free (wc := [(y0, .inr (2, [.null, .null, .null, .null, .null, .null, .int 0, .null, .null, .null, .null, .int 0, .null, .int 0]))]) hD hS hA [6] rfl
  refine va_callv (va_runI (As := []) (rest := [.ref y0]) ⟨hx, hb, hml, hown, hts⟩ (r_init l dC dI H.size y0) (cwI 0 hts gL_law_X2_init rfl rfl rfl (hts (.initialized RX2) (by decide +kernel)) (hts (.methodLink RL 12 yX2_init) (by decide +kernel)) (hts (.instanceMethod yX2_init) (by decide +kernel)) rfl (by decide +kernel) ⟨Nat.le_of_ble_eq_true rfl, Nat.le_of_ble_eq_true rfl⟩) ⟨fun a U g mk q => by obtain ⟨q0, q1, qP, qK, qD⟩ := q; exact ⟨q0, q1, qP, va_K.moved (u := U) (U := U.calling g mk a) (Vm.Alike.refl U.vm) qK, qD⟩, fun U hU hW => ⟨rfl, by rw [hU], by rw [hU]; exact hPc, va_K.moved hW.alike hKc, hDc.weaken (fun _ _ _ _ => trivial)⟩⟩ rfl rfl hl.1 rfl (lv_room (Nat.le_of_ble_eq_true rfl)) dL_law_12 ⟨Nat.le_of_ble_eq_true rfl, Nat.le_of_ble_eq_true rfl⟩) hS (fun q _ h => hFc q h) hFc (fun u t H1 locs ht hvm hw hB hz1 hk1 hS => ?_)
  obtain ⟨ac, au, ab, ae, am, ap, ak, al, af, an, ar, cJ, hP1, hK1, hD1⟩ := hB
  rw [ht] at hP1
  have hK1 := va_K.moved hvm.symm hK1
  try dsimp only at hw
  obtain ⟨hP, hD⟩ := va_join (wr := [(x0, .inr (1, [.ref qt, .int (nI 0), .ref qk, .ref qs, .ref qm, .int 0])), (qt, .inl (cT, 2000, .inl (fun _ => 0))), (qk, .inl (cK, 16, .inl (fun _ => 0))), (qs, .inr (0, [.ref qw, .int (nI 0), .int 1732584193, .int (-271733879), .int (-1732584194), .int 271733878])), (qw, .inl (cW, 16, .inl (fun _ => 0))), (qm, .inl (cM, 4, .inl (fun _ => 0)))]) (w1 := [(y0, .inr (2, [.ref ac, .ref au, .ref ab, .ref ae, .ref am, .ref ap, .int 0, .ref ak, .ref al, .ref af, .ref an, .int (nI 0), .ref ar, .int 0])), (ac, .inl (cJ, 64, .inl ks_k)), (au, .inl (cJ, 16, .inl ks_tt)), (ab, .inl (cJ, 4, .inl ks_begI)), (ae, .inl (cJ, 4, .inl ks_tmI)), (am, .inl (cJ, 4, .inl ks_moI)), (ap, .inl (cJ, 2000, .inl (fun _ => 0))), (ak, .inl (cJ, 16, .inl (fun _ => 0))), (al, .inl (cJ, 64, .inl (fun _ => 0))), (af, .inl (cJ, 4, .inl u)), (an, .inl (cJ, 4, .inl (fun _ => 0))), (ar, .inl (cJ, 16, .inl (fun _ => 0)))]) hP hD [6] [0, 1, 2, 3, 4, 5] rfl rfl (by decide) (by decide) hk1 hFc hP1 hD1
  have hK := (hK.sub (tys' := [(cT, .byte), (cK, .byte), (cW, .int), (cM, .int)]) [0, 1, 2, 3] rfl).app hK1
  generalize H1 = H at hP hS ⊢
  have hP : va_P (dC, dI) vwCl [(x0, .inr (1, [.ref qt, .int (nI 0), .ref qk, .ref qs, .ref qm, .int 0])), (qt, .inl (cT, 2000, .inl (fun _ => 0))), (qk, .inl (cK, 16, .inl (fun _ => 0))), (qs, .inr (0, [.ref qw, .int (nI 0), .int 1732584193, .int (-271733879), .int (-1732584194), .int 271733878])), (qw, .inl (cW, 16, .inl (fun _ => 0))), (qm, .inl (cM, 4, .inl (fun _ => 0))), (y0, .inr (2, [.ref ac, .ref au, .ref ab, .ref ae, .ref am, .ref ap, .int 0, .ref ak, .ref al, .ref af, .ref an, .int (nI 0), .ref ar, .int 0])), (ac, .inl (cJ, 64, .inl ks_k)), (au, .inl (cJ, 16, .inl ks_tt)), (ab, .inl (cJ, 4, .inl ks_begI)), (ae, .inl (cJ, 4, .inl ks_tmI)), (am, .inl (cJ, 4, .inl ks_moI)), (ap, .inl (cJ, 2000, .inl (fun _ => 0))), (ak, .inl (cJ, 16, .inl (fun _ => 0))), (al, .inl (cJ, 64, .inl (fun _ => 0))), (af, .inl (cJ, 4, .inl u)), (an, .inl (cJ, 4, .inl (fun _ => 0))), (ar, .inl (cJ, 16, .inl (fun _ => 0)))] H := hP
  have hD : va_D (fun q : Nat => s.heap.size ≤ q) [(x0, .inr (1, [.ref qt, .int (nI 0), .ref qk, .ref qs, .ref qm, .int 0])), (qt, .inl (cT, 2000, .inl (fun _ => 0))), (qk, .inl (cK, 16, .inl (fun _ => 0))), (qs, .inr (0, [.ref qw, .int (nI 0), .int 1732584193, .int (-271733879), .int (-1732584194), .int 271733878])), (qw, .inl (cW, 16, .inl (fun _ => 0))), (qm, .inl (cM, 4, .inl (fun _ => 0))), (y0, .inr (2, [.ref ac, .ref au, .ref ab, .ref ae, .ref am, .ref ap, .int 0, .ref ak, .ref al, .ref af, .ref an, .int (nI 0), .ref ar, .int 0])), (ac, .inl (cJ, 64, .inl ks_k)), (au, .inl (cJ, 16, .inl ks_tt)), (ab, .inl (cJ, 4, .inl ks_begI)), (ae, .inl (cJ, 4, .inl ks_tmI)), (am, .inl (cJ, 4, .inl ks_moI)), (ap, .inl (cJ, 2000, .inl (fun _ => 0))), (ak, .inl (cJ, 16, .inl (fun _ => 0))), (al, .inl (cJ, 64, .inl (fun _ => 0))), (af, .inl (cJ, 4, .inl u)), (an, .inl (cJ, 4, .inl (fun _ => 0))), (ar, .inl (cJ, 16, .inl (fun _ => 0)))] := hD
  have hK : va_K (dC, dI) vwCl [(cT, .byte), (cK, .byte), (cW, .int), (cM, .int), (cJ, .int)] s := hK
  refine W.widen (k := 18) (n := 4258) (Nat.le_of_ble_eq_true rfl) (Nat.le_of_ble_eq_true rfl) ?_
  refine lv_astore_n (lv' := [(2, .ref y0), (1, .ref x0), (0, .ref b)]) hx hb dL_law_15 rfl hl (by decide) rfl (fun ls hl => ?_)
  refine lv_iconst (v := 0) hx hb dL_law_16 (by decide) ?_
  refine kz_top (y := nI (6 * 0)) (by decide) ?_
  refine lv_istore_n (lv' := [(3, .int (nI (6 * 0))), (2, .ref y0), (1, .ref x0), (0, .ref b)]) hx hb dL_law_17 rfl hl (by decide) rfl (fun ls hl => ?_)
  exact law_loop hL C1 hT hN hK ⟨0, 0, 0, (1732584193, -271733879, -1732584194, 271733878), fun _ => 0, fun _ => 0, fun _ => 0, fun _ => 0, fun _ => 0, fun _ => 0, fun _ => 0, u, fun _ => 0, fun _ => 0, fun _ => 0, ⟨by omega, fun _ _ => rfl, fun _ _ => rfl, ks_inv_0 _ _, rf_inv_0 _ _ hw, by omega, Or.inl rfl⟩, lv_sub hl [0, 1, 2, 3] rfl, hP, hD, hS⟩
