set_option maxHeartbeats 4000000 in
set_option maxRecDepth 100000 in
/-- mixBlock: the four numbers behind one more block -/
theorem c_mixBlock (l : Launch) (dC : Nat → ClassId) (dI : Nat → Nat → Nat) (sz : Nat) (tS tT h w : Nat) (cI : ClassId) (nn : Int32) (v : ks_Q) (wd : Nat → Int32) : Met l yX0_mixBlock wsX0_mixBlock ({ frames := 1, cells := 0, slots := 0, locals := 24 }) (va_Pc [.ref h] (fun U => U.heap.size = sz ∧ va_P (dC, dI) vwCl [(h, .inr (0, [.ref w, .int nn, .int v.1, .int v.2.1, .int v.2.2.1, .int v.2.2.2])), (w, .inl (cI, 16, .inl wd))] U.heap ∧ va_K (dC, dI) vwCl [(cI, .int)] U ∧ va_D (fun _ => True) [(h, .inr (0, [.ref w, .int nn, .int v.1, .int v.2.1, .int v.2.2.1, .int v.2.2.2])), (w, .inl (cI, 16, .inl wd))] ∧ ks_tab tS tT (va_A [(h, .inr (0, [.ref w, .int nn, .int v.1, .int v.2.1, .int v.2.2.1, .int v.2.2.2])), (w, .inl (cI, 16, .inl wd))] sz) U U.heap)) (va_Qv (fun _u : Unit => True) (fun (_u : Unit) t => kz_B dC dI [(cI, .int)] (va_A [(h, .inr (0, [.ref w, .int nn, .int v.1, .int v.2.1, .int v.2.2.1, .int v.2.2.2])), (w, .inl (cI, 16, .inl wd))] sz) [(h, .inr (0, [.ref w, .int nn, .int ((ks_mix wd v).1), .int ((ks_mix wd v).2.1), .int ((ks_mix wd v).2.2.1), .int ((ks_mix wd v).2.2.2)])), (w, .inl (cI, 16, .inl wd))] t) (va_A [(h, .inr (0, [.ref w, .int nn, .int v.1, .int v.2.1, .int v.2.2.1, .int v.2.2.2])), (w, .inl (cI, 16, .inl wd))] sz)) 0 0 (va_A [(h, .inr (0, [.ref w, .int nn, .int v.1, .int v.2.1, .int v.2.2.1, .int v.2.2.2])), (w, .inl (cI, 16, .inl wd))] sz) := by
  refine Met.ofW (cc := cX0_mixBlock) (maxL := 9) (ret := none) (by decide) rfl ?_
  intro p e s m args below meth c s₁ B hml hv
  obtain ⟨rfl, hsz, hP, hK, hD0, hT⟩ := hv
  have hx := B.exec
  have hb := B.bytes
  have hr := B.returns
  have hts := atoms_spec (ws := wsX0_mixBlock) B.pre
  have hown : s.vm.findClass RX0 = some m.cls := findClass_of_methodNamed B.named
  have hlocks := B.notSynchronized
  subst hsz
  have hD := hD0.self (sz := s.heap.size)
  generalize hAe : va_A [(h, .inr (0, [.ref w, .int nn, .int v.1, .int v.2.1, .int v.2.2.1, .int v.2.2.2])), (w, .inl (cI, 16, .inl wd))] s.heap.size = A at hD hT ⊢
  have hA : ∀ q : Nat, s.heap.size ≤ q → A q := fun q h => by rw [← hAe]; exact Or.inr h
  have hS : va_S A s.heap s.heap [] := va_S.rf
  have hP : va_P (dC, dI) vwCl [(h, .inr (0, [.ref w, .int nn, .int v.1, .int v.2.1, .int v.2.2.1, .int v.2.2.2])), (w, .inl (cI, 16, .inl wd))] s.heap := hP
  have hl := lv_entry ([.ref h]) (n := 9) (Nat.le_of_ble_eq_true rfl)
  rw [lg_entry_eq]
  generalize (lg_sl ([.ref h]) ++ List.replicate (9 - (lg_sl ([.ref h])).length) Slot.unset).toArray = ls at hl ⊢
  have hl : lv_has ls 9 [(0, .ref h)] := hl
  refine lv_aload_n hx hb dX0_mixBlock_0 rfl (lv_at hl 0 rfl) ?_
  refine va_get (D := (dC, dI)) (ci := 0) (v := .int v.1) (C := RX0) (T := TX0) (N := 6) hx hb hts (by decide +kernel) hown hK hP 0 rfl rfl 2 (by decide) (hts (.fieldLink RX0 21 "KeySums$Summer" "a" "I") (by decide +kernel)) (fun _ h9 => h9) rfl dX0_mixBlock_1 ?_
  refine lv_istore_n (lv' := [(1, .int v.1), (0, .ref h)]) hx hb dX0_mixBlock_4 rfl hl (by decide) rfl (fun ls hl => ?_)
  refine lv_aload_n hx hb dX0_mixBlock_5 rfl (lv_at hl 1 rfl) ?_
  refine va_get (D := (dC, dI)) (ci := 0) (v := .int v.2.1) (C := RX0) (T := TX0) (N := 6) hx hb hts (by decide +kernel) hown hK hP 0 rfl rfl 3 (by decide) (hts (.fieldLink RX0 25 "KeySums$Summer" "b" "I") (by decide +kernel)) (fun _ h9 => h9) rfl dX0_mixBlock_6 ?_
  refine lv_istore_n (lv' := [(2, .int v.2.1), (1, .int v.1), (0, .ref h)]) hx hb dX0_mixBlock_9 rfl hl (by decide) rfl (fun ls hl => ?_)
  refine lv_aload_n hx hb dX0_mixBlock_10 rfl (lv_at hl 2 rfl) ?_
  refine va_get (D := (dC, dI)) (ci := 0) (v := .int v.2.2.1) (C := RX0) (T := TX0) (N := 6) hx hb hts (by decide +kernel) hown hK hP 0 rfl rfl 4 (by decide) (hts (.fieldLink RX0 29 "KeySums$Summer" "c" "I") (by decide +kernel)) (fun _ h9 => h9) rfl dX0_mixBlock_11 ?_
  refine lv_istore_n (lv' := [(3, .int v.2.2.1), (2, .int v.2.1), (1, .int v.1), (0, .ref h)]) hx hb dX0_mixBlock_14 rfl hl (by decide) rfl (fun ls hl => ?_)
  refine lv_aload_n hx hb dX0_mixBlock_15 rfl (lv_at hl 3 rfl) ?_
  refine va_get (D := (dC, dI)) (ci := 0) (v := .int v.2.2.2) (C := RX0) (T := TX0) (N := 6) hx hb hts (by decide +kernel) hown hK hP 0 rfl rfl 5 (by decide) (hts (.fieldLink RX0 33 "KeySums$Summer" "d" "I") (by decide +kernel)) (fun _ h9 => h9) rfl dX0_mixBlock_16 ?_
  refine lv_istore (lv' := [(4, .int v.2.2.2), (3, .int v.2.2.1), (2, .int v.2.1), (1, .int v.1), (0, .ref h)]) hx hb dX0_mixBlock_19 hl (by decide) rfl (fun ls hl => ?_)
  refine lv_iconst (v := 0) hx hb dX0_mixBlock_21 (by decide) ?_
  refine kz_top (y := nI 0) nI_0.symm ?_
  refine lv_istore (lv' := [(5, .int (nI 0)), (4, .int v.2.2.2), (3, .int v.2.2.1), (2, .int v.2.1), (1, .int v.1), (0, .ref h)]) hx hb dX0_mixBlock_22 hl (by decide) rfl (fun ls hl => ?_)
  refine kz_loop (σ := ks_Q) (fun i x ls H locs => x = ks_run wd v i ∧ lv_has ls 9 [(5, .int (nI i)), (4, .int x.2.2.2), (3, .int x.2.2.1), (2, .int x.2.1), (1, .int x.1), (0, .ref h)] ∧ va_P (dC, dI) vwCl [(h, .inr (0, [.ref w, .int nn, .int v.1, .int v.2.1, .int v.2.2.1, .int v.2.2.2])), (w, .inl (cI, 16, .inl wd))] H ∧ va_D A [(h, .inr (0, [.ref w, .int nn, .int v.1, .int v.2.1, .int v.2.2.1, .int v.2.2.2])), (w, .inl (cI, 16, .inl wd))] ∧ va_S A s.heap H locs) 64 ?_ ?_ 0 v ls _ _ (Nat.zero_le _) ⟨rfl, hl, hP, hD, hS⟩
  · skip
    intro i x ls H locs hi hI ih
    obtain ⟨hv, hl, hP, hD, hS⟩ := hI
    refine lv_iload hx hb dX0_mixBlock_24 (lv_at hl 0 rfl) ?_
    refine lv_bipush (v := 64) hx hb dX0_mixBlock_26 (by decide) ?_
    refine lv_icmp_ge (tgt := 109) hx hb dX0_mixBlock_28 (by decide) (fun hc => ?_) (fun hc => ?_)
    · skip
      exact absurd hc (nI_ge (a := i) (b := 64) hi (by decide))
    · skip
      refine lv_iload hx hb dX0_mixBlock_31 (lv_at hl 0 rfl) ?_
      refine lv_iconst (v := 4) hx hb dX0_mixBlock_33 (by decide) ?_
      refine lv_ishr hx hb dX0_mixBlock_34 ?_
      refine kz_top (y := nI (i / 16)) (pk_shrN (by omega) _ 4 (by decide)) ?_
      refine lv_istore (lv' := [(6, .int (nI (i / 16))), (5, .int (nI i)), (4, .int x.2.2.2), (3, .int x.2.2.1), (2, .int x.2.1), (1, .int x.1), (0, .ref h)]) hx hb dX0_mixBlock_35 hl (by decide) rfl (fun ls hl => ?_)
      refine lv_iload_n hx hb dX0_mixBlock_37 rfl (lv_at hl 5 rfl) ?_
      refine lv_iload hx hb dX0_mixBlock_38 (lv_at hl 0 rfl) ?_
      refine lv_iload_n hx hb dX0_mixBlock_40 rfl (lv_at hl 4 rfl) ?_
      refine lv_iload_n hx hb dX0_mixBlock_41 rfl (lv_at hl 3 rfl) ?_
      refine lv_iload hx hb dX0_mixBlock_42 (lv_at hl 2 rfl) ?_
      refine vp_callSi (va_runS (As := [.int (nI (i / 16)), .int x.2.1, .int x.2.2.1, .int x.2.2.2]) (rest := [.int x.1]) ⟨hx, hb, hml, hown, hts⟩ (c_choose l (i / 16) (by omega) x.2.1 x.2.2.1 x.2.2.2) (va_cwS 4 hts gX0_mixBlock_X0_choose rfl rfl rfl (by decide +kernel) ⟨Nat.le_of_ble_eq_true rfl, Nat.le_of_ble_eq_true rfl⟩) ⟨fun a U g mk q => q, fun U hU hW => ⟨rfl, trivial⟩⟩ rfl rfl hl.1 rfl (lv_room (Nat.le_of_ble_eq_true rfl)) dX0_mixBlock_44 ⟨Nat.zero_le _, Nat.zero_le _⟩).run (fun r hw => ?_)
      subst hw
      refine lv_iadd hx hb dX0_mixBlock_47 ?_
      refine va_gets hx hb hT.1 hS hown (hts (.fieldLink RX0 49 "KeySums$Summer" "SINES" "[I") (by decide +kernel)) (fun _ h9 => h9) dX0_mixBlock_48 ?_
      refine lv_iload hx hb dX0_mixBlock_51 (lv_at hl 1 rfl) ?_
      refine kz_ti (j := i) hx hb hT.2.1 hS (hi) (by decide) dX0_mixBlock_53 ?_
      refine lv_iadd hx hb dX0_mixBlock_54 ?_
      refine lv_aload_n hx hb dX0_mixBlock_55 rfl (lv_at hl 6 rfl) ?_
      refine va_get (D := (dC, dI)) (ci := 0) (v := .ref w) (C := RX0) (T := TX0) (N := 6) hx hb hts (by decide +kernel) hown hK hP 0 rfl rfl 0 (by decide) (hts (.fieldLink RX0 7 "KeySums$Summer" "words" "[I") (by decide +kernel)) (fun _ h9 => h9) rfl dX0_mixBlock_56 ?_
      refine lv_iload hx hb dX0_mixBlock_59 (lv_at hl 0 rfl) ?_
      refine lv_iload hx hb dX0_mixBlock_61 (lv_at hl 1 rfl) ?_
      refine vp_callSi (va_runS (As := [.int (nI (i / 16)), .int (nI i)]) (rest := [.ref w, .int ((x.1 + (ks_F (i / 16) x.2.1 x.2.2.1 x.2.2.2)) + (ks_k i))]) ⟨hx, hb, hml, hown, hts⟩ (c_wordOf l i hi) (va_cwS 2 hts gX0_mixBlock_X0_wordOf rfl rfl rfl (by decide +kernel) ⟨Nat.le_of_ble_eq_true rfl, Nat.le_of_ble_eq_true rfl⟩) ⟨fun a U g mk q => q, fun U hU hW => ⟨rfl, trivial⟩⟩ rfl rfl hl.1 rfl (lv_room (Nat.le_of_ble_eq_true rfl)) dX0_mixBlock_63 ⟨Nat.zero_le _, Nat.zero_le _⟩).run (fun r hw => ?_)
      subst hw
      refine kz_iald (j := (ks_g i)) hx hb hK hP 1 0 rfl rfl (ks_g_lt i) (by decide) dX0_mixBlock_66 ?_
      refine lv_iadd hx hb dX0_mixBlock_67 ?_
      refine lv_istore (lv' := [(7, .int (((x.1 + (ks_F (i / 16) x.2.1 x.2.2.1 x.2.2.2)) + (ks_k i)) + (wd (ks_g i)))), (6, .int (nI (i / 16))), (5, .int (nI i)), (4, .int x.2.2.2), (3, .int x.2.2.1), (2, .int x.2.1), (1, .int x.1), (0, .ref h)]) hx hb dX0_mixBlock_68 hl (by decide) rfl (fun ls hl => ?_)
      refine lv_iload hx hb dX0_mixBlock_70 (lv_at hl 0 rfl) ?_
      refine va_gets hx hb hT.2.2.1 hS hown (hts (.fieldLink RX0 56 "KeySums$Summer" "TURNS" "[I") (by decide +kernel)) (fun _ h9 => h9) dX0_mixBlock_72 ?_
      refine lv_iconst (v := 4) hx hb dX0_mixBlock_75 (by decide) ?_
      refine lv_iload hx hb dX0_mixBlock_76 (lv_at hl 1 rfl) ?_
      refine lv_imul hx hb dX0_mixBlock_78 ?_
      refine kz_top (y := nI (4 * (i / 16))) (pk_mul 4 (i / 16)) ?_
      refine lv_iload hx hb dX0_mixBlock_79 (lv_at hl 2 rfl) ?_
      refine lv_iconst (v := 3) hx hb dX0_mixBlock_81 (by decide) ?_
      refine lv_iand hx hb dX0_mixBlock_82 ?_
      refine kz_top (y := nI (i % 4)) (pk_andN (by omega) 2 (by decide)) ?_
      refine lv_iadd hx hb dX0_mixBlock_83 ?_
      refine kz_top (y := nI (4 * (i / 16) + i % 4)) (nI_add _ _) ?_
      refine kz_ti (j := (4 * (i / 16) + i % 4)) hx hb hT.2.2.2 hS (show 4 * (i / 16) + i % 4 < 16 by omega) (by decide) dX0_mixBlock_84 ?_
      refine vp_callSi (va_runS (As := [.int (((x.1 + (ks_F (i / 16) x.2.1 x.2.2.1 x.2.2.2)) + (ks_k i)) + (wd (ks_g i))), .int (ks_tt (4 * (i / 16) + i % 4))]) (rest := []) ⟨hx, hb, hml, hown, hts⟩ (c_turnLeft l (((x.1 + (ks_F (i / 16) x.2.1 x.2.2.1 x.2.2.2)) + (ks_k i)) + (wd (ks_g i))) (ks_tt (4 * (i / 16) + i % 4))) (va_cwS 2 hts gX0_mixBlock_X0_turnLeft rfl rfl rfl (by decide +kernel) ⟨Nat.le_of_ble_eq_true rfl, Nat.le_of_ble_eq_true rfl⟩) ⟨fun a U g mk q => q, fun U hU hW => ⟨rfl, trivial⟩⟩ rfl rfl hl.1 rfl (lv_room (Nat.le_of_ble_eq_true rfl)) dX0_mixBlock_85 ⟨Nat.zero_le _, Nat.zero_le _⟩).run (fun r hw => ?_)
      subst hw
      refine lv_istore (lv' := [(8, .int (ks_rot (((x.1 + (ks_F (i / 16) x.2.1 x.2.2.1 x.2.2.2)) + (ks_k i)) + (wd (ks_g i))) (ks_tt (4 * (i / 16) + i % 4)))), (7, .int (((x.1 + (ks_F (i / 16) x.2.1 x.2.2.1 x.2.2.2)) + (ks_k i)) + (wd (ks_g i)))), (6, .int (nI (i / 16))), (5, .int (nI i)), (4, .int x.2.2.2), (3, .int x.2.2.1), (2, .int x.2.1), (1, .int x.1), (0, .ref h)]) hx hb dX0_mixBlock_88 hl (by decide) rfl (fun ls hl => ?_)
      refine lv_iload hx hb dX0_mixBlock_90 (lv_at hl 4 rfl) ?_
      refine lv_istore_n (lv' := [(1, .int x.2.2.2), (8, .int (ks_rot (((x.1 + (ks_F (i / 16) x.2.1 x.2.2.1 x.2.2.2)) + (ks_k i)) + (wd (ks_g i))) (ks_tt (4 * (i / 16) + i % 4)))), (7, .int (((x.1 + (ks_F (i / 16) x.2.1 x.2.2.1 x.2.2.2)) + (ks_k i)) + (wd (ks_g i)))), (6, .int (nI (i / 16))), (5, .int (nI i)), (4, .int x.2.2.2), (3, .int x.2.2.1), (2, .int x.2.1), (0, .ref h)]) hx hb dX0_mixBlock_92 rfl hl (by decide) rfl (fun ls hl => ?_)
      refine lv_iload_n hx hb dX0_mixBlock_93 rfl (lv_at hl 6 rfl) ?_
      refine lv_istore (lv' := [(4, .int x.2.2.1), (1, .int x.2.2.2), (8, .int (ks_rot (((x.1 + (ks_F (i / 16) x.2.1 x.2.2.1 x.2.2.2)) + (ks_k i)) + (wd (ks_g i))) (ks_tt (4 * (i / 16) + i % 4)))), (7, .int (((x.1 + (ks_F (i / 16) x.2.1 x.2.2.1 x.2.2.2)) + (ks_k i)) + (wd (ks_g i)))), (6, .int (nI (i / 16))), (5, .int (nI i)), (3, .int x.2.2.1), (2, .int x.2.1), (0, .ref h)]) hx hb dX0_mixBlock_94 hl (by decide) rfl (fun ls hl => ?_)
      refine lv_iload_n hx hb dX0_mixBlock_96 rfl (lv_at hl 7 rfl) ?_
      refine lv_istore_n (lv' := [(3, .int x.2.1), (4, .int x.2.2.1), (1, .int x.2.2.2), (8, .int (ks_rot (((x.1 + (ks_F (i / 16) x.2.1 x.2.2.1 x.2.2.2)) + (ks_k i)) + (wd (ks_g i))) (ks_tt (4 * (i / 16) + i % 4)))), (7, .int (((x.1 + (ks_F (i / 16) x.2.1 x.2.2.1 x.2.2.2)) + (ks_k i)) + (wd (ks_g i)))), (6, .int (nI (i / 16))), (5, .int (nI i)), (2, .int x.2.1), (0, .ref h)]) hx hb dX0_mixBlock_97 rfl hl (by decide) rfl (fun ls hl => ?_)
      refine lv_iload_n hx hb dX0_mixBlock_98 rfl (lv_at hl 7 rfl) ?_
      refine lv_iload hx hb dX0_mixBlock_99 (lv_at hl 3 rfl) ?_
      refine lv_iadd hx hb dX0_mixBlock_101 ?_
      refine lv_istore_n (lv' := [(2, .int (x.2.1 + (ks_rot (((x.1 + (ks_F (i / 16) x.2.1 x.2.2.1 x.2.2.2)) + (ks_k i)) + (wd (ks_g i))) (ks_tt (4 * (i / 16) + i % 4))))), (3, .int x.2.1), (4, .int x.2.2.1), (1, .int x.2.2.2), (8, .int (ks_rot (((x.1 + (ks_F (i / 16) x.2.1 x.2.2.1 x.2.2.2)) + (ks_k i)) + (wd (ks_g i))) (ks_tt (4 * (i / 16) + i % 4)))), (7, .int (((x.1 + (ks_F (i / 16) x.2.1 x.2.2.1 x.2.2.2)) + (ks_k i)) + (wd (ks_g i)))), (6, .int (nI (i / 16))), (5, .int (nI i)), (0, .ref h)]) hx hb dX0_mixBlock_102 rfl hl (by decide) rfl (fun ls hl => ?_)
      refine lv_iinc (v := nI (i + 1)) (lv' := [(5, .int (nI (i + 1))), (2, .int (x.2.1 + (ks_rot (((x.1 + (ks_F (i / 16) x.2.1 x.2.2.1 x.2.2.2)) + (ks_k i)) + (wd (ks_g i))) (ks_tt (4 * (i / 16) + i % 4))))), (3, .int x.2.1), (4, .int x.2.2.1), (1, .int x.2.2.2), (8, .int (ks_rot (((x.1 + (ks_F (i / 16) x.2.1 x.2.2.1 x.2.2.2)) + (ks_k i)) + (wd (ks_g i))) (ks_tt (4 * (i / 16) + i % 4)))), (7, .int (((x.1 + (ks_F (i / 16) x.2.1 x.2.2.1 x.2.2.2)) + (ks_k i)) + (wd (ks_g i)))), (6, .int (nI (i / 16))), (0, .ref h)]) hx hb dX0_mixBlock_103 hl (k := 7) rfl (nI_1 i) (by decide) rfl (fun ls hl => ?_)
      refine lv_goto (tgt := 24) hx hb dX0_mixBlock_106 (by decide) ?_
      exact ih (ks_st wd i x) ls H locs ⟨by rw [hv]; rfl, lv_sub hl [0, 3, 2, 1, 4, 8] rfl, hP, hD, hS⟩
  · skip
    intro x ls H locs hI
    obtain ⟨hv, hl, hP, hD, hS⟩ := hI
    refine lv_iload hx hb dX0_mixBlock_24 (lv_at hl 0 rfl) ?_
    refine lv_bipush (v := 64) hx hb dX0_mixBlock_26 (by decide) ?_
    refine lv_icmp_ge (tgt := 109) hx hb dX0_mixBlock_28 (by decide) (fun hc => ?_) (fun hc => ?_)
    · skip
      refine lv_aload_n hx hb dX0_mixBlock_109 rfl (lv_at hl 5 rfl) ?_
      refine lv_dup hx hb dX0_mixBlock_110 rfl ?_
      refine va_get (D := (dC, dI)) (ci := 0) (v := .int v.1) (C := RX0) (T := TX0) (N := 6) hx hb hts (by decide +kernel) hown hK hP 0 rfl rfl 2 (by decide) (hts (.fieldLink RX0 21 "KeySums$Summer" "a" "I") (by decide +kernel)) (fun _ h9 => h9) rfl dX0_mixBlock_111 ?_
      refine lv_iload_n hx hb dX0_mixBlock_114 rfl (lv_at hl 4 rfl) ?_
      refine lv_iadd hx hb dX0_mixBlock_115 ?_
      refine va_put (D := (dC, dI)) (ci := 0) (v := .int (v.1 + x.1)) (ty := .int) (C := RX0) (T := TX0) (N := 6) hx hb hts (by decide +kernel) tyX0 tyX0_ok nmX0 hown hK hP hD hS 0 rfl rfl 2 (by decide) (hts (.fieldLink RX0 21 "KeySums$Summer" "a" "I") (by decide +kernel)) (fun _ h9 => h9) rfl (by decide +kernel) rfl rfl (Nat.le_of_ble_eq_true rfl) dX0_mixBlock_116 (fun H locs hP hD hS => ?_)
      have hP : va_P (dC, dI) vwCl [(h, .inr (0, [.ref w, .int nn, .int (v.1 + x.1), .int v.2.1, .int v.2.2.1, .int v.2.2.2])), (w, .inl (cI, 16, .inl wd))] H := hP
      have hD : va_D A [(h, .inr (0, [.ref w, .int nn, .int (v.1 + x.1), .int v.2.1, .int v.2.2.1, .int v.2.2.2])), (w, .inl (cI, 16, .inl wd))] := hD
      refine lv_aload_n hx hb dX0_mixBlock_119 rfl (lv_at hl 5 rfl) ?_
      refine lv_dup hx hb dX0_mixBlock_120 rfl ?_
      refine va_get (D := (dC, dI)) (ci := 0) (v := .int v.2.1) (C := RX0) (T := TX0) (N := 6) hx hb hts (by decide +kernel) hown hK hP 0 rfl rfl 3 (by decide) (hts (.fieldLink RX0 25 "KeySums$Summer" "b" "I") (by decide +kernel)) (fun _ h9 => h9) rfl dX0_mixBlock_121 ?_
      refine lv_iload_n hx hb dX0_mixBlock_124 rfl (lv_at hl 3 rfl) ?_
      refine lv_iadd hx hb dX0_mixBlock_125 ?_
      refine va_put (D := (dC, dI)) (ci := 0) (v := .int (v.2.1 + x.2.1)) (ty := .int) (C := RX0) (T := TX0) (N := 6) hx hb hts (by decide +kernel) tyX0 tyX0_ok nmX0 hown hK hP hD hS 0 rfl rfl 3 (by decide) (hts (.fieldLink RX0 25 "KeySums$Summer" "b" "I") (by decide +kernel)) (fun _ h9 => h9) rfl (by decide +kernel) rfl rfl (Nat.le_of_ble_eq_true rfl) dX0_mixBlock_126 (fun H locs hP hD hS => ?_)
      have hP : va_P (dC, dI) vwCl [(h, .inr (0, [.ref w, .int nn, .int (v.1 + x.1), .int (v.2.1 + x.2.1), .int v.2.2.1, .int v.2.2.2])), (w, .inl (cI, 16, .inl wd))] H := hP
      have hD : va_D A [(h, .inr (0, [.ref w, .int nn, .int (v.1 + x.1), .int (v.2.1 + x.2.1), .int v.2.2.1, .int v.2.2.2])), (w, .inl (cI, 16, .inl wd))] := hD
      refine lv_aload_n hx hb dX0_mixBlock_129 rfl (lv_at hl 5 rfl) ?_
      refine lv_dup hx hb dX0_mixBlock_130 rfl ?_
      refine va_get (D := (dC, dI)) (ci := 0) (v := .int v.2.2.1) (C := RX0) (T := TX0) (N := 6) hx hb hts (by decide +kernel) hown hK hP 0 rfl rfl 4 (by decide) (hts (.fieldLink RX0 29 "KeySums$Summer" "c" "I") (by decide +kernel)) (fun _ h9 => h9) rfl dX0_mixBlock_131 ?_
      refine lv_iload_n hx hb dX0_mixBlock_134 rfl (lv_at hl 2 rfl) ?_
      refine lv_iadd hx hb dX0_mixBlock_135 ?_
      refine va_put (D := (dC, dI)) (ci := 0) (v := .int (v.2.2.1 + x.2.2.1)) (ty := .int) (C := RX0) (T := TX0) (N := 6) hx hb hts (by decide +kernel) tyX0 tyX0_ok nmX0 hown hK hP hD hS 0 rfl rfl 4 (by decide) (hts (.fieldLink RX0 29 "KeySums$Summer" "c" "I") (by decide +kernel)) (fun _ h9 => h9) rfl (by decide +kernel) rfl rfl (Nat.le_of_ble_eq_true rfl) dX0_mixBlock_136 (fun H locs hP hD hS => ?_)
      have hP : va_P (dC, dI) vwCl [(h, .inr (0, [.ref w, .int nn, .int (v.1 + x.1), .int (v.2.1 + x.2.1), .int (v.2.2.1 + x.2.2.1), .int v.2.2.2])), (w, .inl (cI, 16, .inl wd))] H := hP
      have hD : va_D A [(h, .inr (0, [.ref w, .int nn, .int (v.1 + x.1), .int (v.2.1 + x.2.1), .int (v.2.2.1 + x.2.2.1), .int v.2.2.2])), (w, .inl (cI, 16, .inl wd))] := hD
      refine lv_aload_n hx hb dX0_mixBlock_139 rfl (lv_at hl 5 rfl) ?_
      refine lv_dup hx hb dX0_mixBlock_140 rfl ?_
      refine va_get (D := (dC, dI)) (ci := 0) (v := .int v.2.2.2) (C := RX0) (T := TX0) (N := 6) hx hb hts (by decide +kernel) hown hK hP 0 rfl rfl 5 (by decide) (hts (.fieldLink RX0 33 "KeySums$Summer" "d" "I") (by decide +kernel)) (fun _ h9 => h9) rfl dX0_mixBlock_141 ?_
      refine lv_iload hx hb dX0_mixBlock_144 (lv_at hl 1 rfl) ?_
      refine lv_iadd hx hb dX0_mixBlock_146 ?_
      refine va_put (D := (dC, dI)) (ci := 0) (v := .int (v.2.2.2 + x.2.2.2)) (ty := .int) (C := RX0) (T := TX0) (N := 6) hx hb hts (by decide +kernel) tyX0 tyX0_ok nmX0 hown hK hP hD hS 0 rfl rfl 5 (by decide) (hts (.fieldLink RX0 33 "KeySums$Summer" "d" "I") (by decide +kernel)) (fun _ h9 => h9) rfl (by decide +kernel) rfl rfl (Nat.le_of_ble_eq_true rfl) dX0_mixBlock_147 (fun H locs hP hD hS => ?_)
      have hP : va_P (dC, dI) vwCl [(h, .inr (0, [.ref w, .int nn, .int (v.1 + x.1), .int (v.2.1 + x.2.1), .int (v.2.2.1 + x.2.2.1), .int (v.2.2.2 + x.2.2.2)])), (w, .inl (cI, 16, .inl wd))] H := hP
      have hD : va_D A [(h, .inr (0, [.ref w, .int nn, .int (v.1 + x.1), .int (v.2.1 + x.2.1), .int (v.2.2.1 + x.2.2.1), .int (v.2.2.2 + x.2.2.2)])), (w, .inl (cI, 16, .inl wd))] := hD
      have hm : (v.1 + x.1, v.2.1 + x.2.1, v.2.2.1 + x.2.2.1, v.2.2.2 + x.2.2.2) = ks_mix wd v := by rw [hv]; rfl
      rw [← hm]
      have hP9 := hP.sub (ws' := [(h, .inr (0, [.ref w, .int nn, .int (v.1 + x.1), .int (v.2.1 + x.2.1), .int (v.2.2.1 + x.2.2.1), .int (v.2.2.2 + x.2.2.2)])), (w, .inl (cI, 16, .inl wd))]) [0, 1] rfl
      have hD9 := hD.sub (ws' := [(h, .inr (0, [.ref w, .int nn, .int (v.1 + x.1), .int (v.2.1 + x.2.1), .int (v.2.2.1 + x.2.2.1), .int (v.2.2.2 + x.2.2.2)])), (w, .inl (cI, 16, .inl wd))]) [0, 1] (by decide) rfl
      have hK9 := hK.sub (tys' := [(cI, .int)]) [0] rfl
      exact W.vret hx hb hr (fun t ht hW => ⟨⟨(), rfl, trivial, by rw [ht]; exact hP9, va_K.moved hW.alike hK9, hD9⟩, hS.F ht⟩) hS.2.2 dX0_mixBlock_150
    · skip
      exact absurd (nI_le (a := 64) (b := 64) (Nat.le_refl _) (by decide)) hc
