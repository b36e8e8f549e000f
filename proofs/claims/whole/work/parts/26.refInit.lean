set_option maxHeartbeats 4000000 in
set_option maxRecDepth 100000 in
/-- KeySumsModel() -/
theorem r_init (l : Launch) (dC : Nat → ClassId) (dI : Nat → Nat → Nat) (sz : Nat) (h : Nat) : Met l yX2_init wsX2_init ({ frames := 1, cells := 11, slots := 2196, locals := 40 }) (va_Pc [.ref h] (fun U => U.heap.size = sz ∧ va_P (dC, dI) vwCl [(h, .inr (2, [.null, .null, .null, .null, .null, .null, .int 0, .null, .null, .null, .null, .int 0, .null, .int 0]))] U.heap ∧ va_K (dC, dI) vwCl [] U ∧ va_D (fun _ => True) [(h, .inr (2, [.null, .null, .null, .null, .null, .null, .int 0, .null, .null, .null, .null, .int 0, .null, .int 0]))])) (va_Qv (fun u : Nat → Int32 => ∀ j, j < 4 → u j = ks_begI j) (fun (u : Nat → Int32) t => ∃ (ac au ab ae am ap ak al af an ar : Nat) (cJ : ClassId), kz_B dC dI [(cJ, .int)] (va_A [(h, .inr (2, [.null, .null, .null, .null, .null, .null, .int 0, .null, .null, .null, .null, .int 0, .null, .int 0]))] sz) [(h, .inr (2, [.ref ac, .ref au, .ref ab, .ref ae, .ref am, .ref ap, .int 0, .ref ak, .ref al, .ref af, .ref an, .int (nI 0), .ref ar, .int 0])), (ac, .inl (cJ, 64, .inl ks_k)), (au, .inl (cJ, 16, .inl ks_tt)), (ab, .inl (cJ, 4, .inl ks_begI)), (ae, .inl (cJ, 4, .inl ks_tmI)), (am, .inl (cJ, 4, .inl ks_moI)), (ap, .inl (cJ, 2000, .inl (fun _ => 0))), (ak, .inl (cJ, 16, .inl (fun _ => 0))), (al, .inl (cJ, 64, .inl (fun _ => 0))), (af, .inl (cJ, 4, .inl u)), (an, .inl (cJ, 4, .inl (fun _ => 0))), (ar, .inl (cJ, 16, .inl (fun _ => 0)))] t) (va_A [(h, .inr (2, [.null, .null, .null, .null, .null, .null, .int 0, .null, .null, .null, .null, .int 0, .null, .int 0]))] sz)) 11 2196 (va_A [(h, .inr (2, [.null, .null, .null, .null, .null, .null, .int 0, .null, .null, .null, .null, .int 0, .null, .int 0]))] sz) := by
  refine Met.ofW (cc := cX2_init) (maxL := 1) (ret := none) (by decide) rfl ?_
  intro p e s m args below meth c s₁ B hml hv
  obtain ⟨rfl, hsz, hP, hK, hD0⟩ := hv
  have hx := B.exec
  have hb := B.bytes
  have hr := B.returns
  have hts := atoms_spec (ws := wsX2_init) B.pre
  have hown : s.vm.findClass RX2 = some m.cls := findClass_of_methodNamed B.named
  have hlocks := B.notSynchronized
  have hin : meth.name = "<init>" := (name_of_methodNamed B.named B.method).1
  subst hsz
  have hD := hD0.self (sz := s.heap.size)
  generalize hAe : va_A [(h, .inr (2, [.null, .null, .null, .null, .null, .null, .int 0, .null, .null, .null, .null, .int 0, .null, .int 0]))] s.heap.size = A at hD  ⊢
  have hA : ∀ q : Nat, s.heap.size ≤ q → A q := fun q h => by rw [← hAe]; exact Or.inr h
  have hS : va_S A s.heap s.heap [] := va_S.rf
  have hP : va_P (dC, dI) vwCl [(h, .inr (2, [.null, .null, .null, .null, .null, .null, .int 0, .null, .null, .null, .null, .int 0, .null, .int 0]))] s.heap := hP
  have hl := lv_entry ([.ref h]) (n := 1) (Nat.le_of_ble_eq_true rfl)
  rw [lg_entry_eq]
  generalize (lg_sl ([.ref h]) ++ List.replicate (1 - (lg_sl ([.ref h])).length) Slot.unset).toArray = ls at hl ⊢
  have hl : lv_has ls 1 [(0, .ref h)] := hl
  refine lv_aload_n hx hb dX2_init_0 rfl (lv_at hl 0 rfl) ?_
  refine W.objInit hx hb hown (hts (.methodLink RX2 1 objectInit) (by decide +kernel)) (hts (.instanceMethod objectInit) (by decide +kernel)) (hts _ (List.mem_cons_of_mem _ (List.mem_append_left _ (List.mem_append_left _ (List.mem_append_left _ (List.mem_append_left _ (List.mem_of_getElem? (i := 2) rfl))))))) rfl (by rw [hml]; exact hl.1) rfl dX2_init_1 (Nat.le_of_ble_eq_true rfl) (Nat.le_of_ble_eq_true rfl) ?_
  refine W.eq (g2 := F0 m 4 ls []) rfl ?_
  refine lv_aload_n hx hb dX2_init_4 rfl (lv_at hl 0 rfl) ?_
  refine lv_bipush (v := 64) hx hb dX2_init_5 (by decide) ?_
  refine va_newa (atype := .int) (ty := .int) (N' := 64) (a0 := (64, .inl (ks_up ks_k 0))) hx hb (hts (.arrayClass .int) (by decide +kernel)) rfl hK hP hD hS hA (fun cA => by rw [ks_up_0]; rfl) (by decide +kernel) (by decide +kernel) (by decide +kernel) (Nat.le_of_ble_eq_true rfl) (Nat.le_of_ble_eq_true rfl) dX2_init_7 (fun ac cJ H hK hP hD hS => ?_)
  have hP : va_P (dC, dI) vwCl [(h, .inr (2, [.null, .null, .null, .null, .null, .null, .int 0, .null, .null, .null, .null, .int 0, .null, .int 0])), (ac, .inl (cJ, 64, .inl (ks_up ks_k 0)))] H := hP
  have hD : va_D A [(h, .inr (2, [.null, .null, .null, .null, .null, .null, .int 0, .null, .null, .null, .null, .int 0, .null, .int 0])), (ac, .inl (cJ, 64, .inl (ks_up ks_k 0)))] := hD
  have hK : va_K (dC, dI) vwCl [(cJ, .int)] s := hK
  refine W.widen (k := 1) (n := 64) (Nat.le_of_ble_eq_true rfl) (Nat.le_of_ble_eq_true rfl) ?_
  refine lv_dup hx hb dX2_init_9 rfl ?_
  refine lv_iconst (v := 0) hx hb dX2_init_10 (by decide) ?_
  refine kz_top (y := nI 0) (by decide) ?_
  refine lv_ldc (v := (-680876936)) hx hb hown (hts (.constant RX2 7 (-680876936)) (by decide +kernel)) dX2_init_11 ?_
  refine kz_astK (j := 0) (T := ks_k) hx hb hK hP hD hS 1 0 rfl rfl (by decide) (by decide) (by decide +kernel) dX2_init_13 (fun H locs hP hD hS => ?_)
  have hP : va_P (dC, dI) vwCl [(h, .inr (2, [.null, .null, .null, .null, .null, .null, .int 0, .null, .null, .null, .null, .int 0, .null, .int 0])), (ac, .inl (cJ, 64, .inl (ks_up ks_k 1)))] H := hP
  have hD : va_D A [(h, .inr (2, [.null, .null, .null, .null, .null, .null, .int 0, .null, .null, .null, .null, .int 0, .null, .int 0])), (ac, .inl (cJ, 64, .inl (ks_up ks_k 1)))] := hD
  refine lv_dup hx hb dX2_init_14 rfl ?_
  refine lv_iconst (v := 1) hx hb dX2_init_15 (by decide) ?_
  refine kz_top (y := nI 1) (by decide) ?_
  refine lv_ldc (v := (-389564586)) hx hb hown (hts (.constant RX2 8 (-389564586)) (by decide +kernel)) dX2_init_16 ?_
  refine kz_astK (j := 1) (T := ks_k) hx hb hK hP hD hS 1 0 rfl rfl (by decide) (by decide) (by decide +kernel) dX2_init_18 (fun H locs hP hD hS => ?_)
  have hP : va_P (dC, dI) vwCl [(h, .inr (2, [.null, .null, .null, .null, .null, .null, .int 0, .null, .null, .null, .null, .int 0, .null, .int 0])), (ac, .inl (cJ, 64, .inl (ks_up ks_k 2)))] H := hP
  have hD : va_D A [(h, .inr (2, [.null, .null, .null, .null, .null, .null, .int 0, .null, .null, .null, .null, .int 0, .null, .int 0])), (ac, .inl (cJ, 64, .inl (ks_up ks_k 2)))] := hD
  refine lv_dup hx hb dX2_init_19 rfl ?_
  refine lv_iconst (v := 2) hx hb dX2_init_20 (by decide) ?_
  refine kz_top (y := nI 2) (by decide) ?_
  refine lv_ldc (v := (606105819)) hx hb hown (hts (.constant RX2 9 (606105819)) (by decide +kernel)) dX2_init_21 ?_
  refine kz_astK (j := 2) (T := ks_k) hx hb hK hP hD hS 1 0 rfl rfl (by decide) (by decide) (by decide +kernel) dX2_init_23 (fun H locs hP hD hS => ?_)
  have hP : va_P (dC, dI) vwCl [(h, .inr (2, [.null, .null, .null, .null, .null, .null, .int 0, .null, .null, .null, .null, .int 0, .null, .int 0])), (ac, .inl (cJ, 64, .inl (ks_up ks_k 3)))] H := hP
  have hD : va_D A [(h, .inr (2, [.null, .null, .null, .null, .null, .null, .int 0, .null, .null, .null, .null, .int 0, .null, .int 0])), (ac, .inl (cJ, 64, .inl (ks_up ks_k 3)))] := hD
  refine lv_dup hx hb dX2_init_24 rfl ?_
  refine lv_iconst (v := 3) hx hb dX2_init_25 (by decide) ?_
  refine kz_top (y := nI 3) (by decide) ?_
  refine lv_ldc (v := (-1044525330)) hx hb hown (hts (.constant RX2 10 (-1044525330)) (by decide +kernel)) dX2_init_26 ?_
  refine kz_astK (j := 3) (T := ks_k) hx hb hK hP hD hS 1 0 rfl rfl (by decide) (by decide) (by decide +kernel) dX2_init_28 (fun H locs hP hD hS => ?_)
  have hP : va_P (dC, dI) vwCl [(h, .inr (2, [.null, .null, .null, .null, .null, .null, .int 0, .null, .null, .null, .null, .int 0, .null, .int 0])), (ac, .inl (cJ, 64, .inl (ks_up ks_k 4)))] H := hP
  have hD : va_D A [(h, .inr (2, [.null, .null, .null, .null, .null, .null, .int 0, .null, .null, .null, .null, .int 0, .null, .int 0])), (ac, .inl (cJ, 64, .inl (ks_up ks_k 4)))] := hD
  refine lv_dup hx hb dX2_init_29 rfl ?_
  refine lv_iconst (v := 4) hx hb dX2_init_30 (by decide) ?_
  refine kz_top (y := nI 4) (by decide) ?_
  refine lv_ldc (v := (-176418897)) hx hb hown (hts (.constant RX2 11 (-176418897)) (by decide +kernel)) dX2_init_31 ?_
  refine kz_astK (j := 4) (T := ks_k) hx hb hK hP hD hS 1 0 rfl rfl (by decide) (by decide) (by decide +kernel) dX2_init_33 (fun H locs hP hD hS => ?_)
  have hP : va_P (dC, dI) vwCl [(h, .inr (2, [.null, .null, .null, .null, .null, .null, .int 0, .null, .null, .null, .null, .int 0, .null, .int 0])), (ac, .inl (cJ, 64, .inl (ks_up ks_k 5)))] H := hP
  have hD : va_D A [(h, .inr (2, [.null, .null, .null, .null, .null, .null, .int 0, .null, .null, .null, .null, .int 0, .null, .int 0])), (ac, .inl (cJ, 64, .inl (ks_up ks_k 5)))] := hD
  refine lv_dup hx hb dX2_init_34 rfl ?_
  refine lv_iconst (v := 5) hx hb dX2_init_35 (by decide) ?_
  refine kz_top (y := nI 5) (by decide) ?_
  refine lv_ldc (v := (1200080426)) hx hb hown (hts (.constant RX2 12 (1200080426)) (by decide +kernel)) dX2_init_36 ?_
  refine kz_astK (j := 5) (T := ks_k) hx hb hK hP hD hS 1 0 rfl rfl (by decide) (by decide) (by decide +kernel) dX2_init_38 (fun H locs hP hD hS => ?_)
  have hP : va_P (dC, dI) vwCl [(h, .inr (2, [.null, .null, .null, .null, .null, .null, .int 0, .null, .null, .null, .null, .int 0, .null, .int 0])), (ac, .inl (cJ, 64, .inl (ks_up ks_k 6)))] H := hP
  have hD : va_D A [(h, .inr (2, [.null, .null, .null, .null, .null, .null, .int 0, .null, .null, .null, .null, .int 0, .null, .int 0])), (ac, .inl (cJ, 64, .inl (ks_up ks_k 6)))] := hD
  refine lv_dup hx hb dX2_init_39 rfl ?_
  refine lv_bipush (v := 6) hx hb dX2_init_40 (by decide) ?_
  refine kz_top (y := nI 6) (by decide) ?_
  refine lv_ldc (v := (-1473231341)) hx hb hown (hts (.constant RX2 13 (-1473231341)) (by decide +kernel)) dX2_init_42 ?_
  refine kz_astK (j := 6) (T := ks_k) hx hb hK hP hD hS 1 0 rfl rfl (by decide) (by decide) (by decide +kernel) dX2_init_44 (fun H locs hP hD hS => ?_)
  have hP : va_P (dC, dI) vwCl [(h, .inr (2, [.null, .null, .null, .null, .null, .null, .int 0, .null, .null, .null, .null, .int 0, .null, .int 0])), (ac, .inl (cJ, 64, .inl (ks_up ks_k 7)))] H := hP
  have hD : va_D A [(h, .inr (2, [.null, .null, .null, .null, .null, .null, .int 0, .null, .null, .null, .null, .int 0, .null, .int 0])), (ac, .inl (cJ, 64, .inl (ks_up ks_k 7)))] := hD
  refine lv_dup hx hb dX2_init_45 rfl ?_
  refine lv_bipush (v := 7) hx hb dX2_init_46 (by decide) ?_
  refine kz_top (y := nI 7) (by decide) ?_
  refine lv_ldc (v := (-45705983)) hx hb hown (hts (.constant RX2 14 (-45705983)) (by decide +kernel)) dX2_init_48 ?_
  refine kz_astK (j := 7) (T := ks_k) hx hb hK hP hD hS 1 0 rfl rfl (by decide) (by decide) (by decide +kernel) dX2_init_50 (fun H locs hP hD hS => ?_)
  have hP : va_P (dC, dI) vwCl [(h, .inr (2, [.null, .null, .null, .null, .null, .null, .int 0, .null, .null, .null, .null, .int 0, .null, .int 0])), (ac, .inl (cJ, 64, .inl (ks_up ks_k 8)))] H := hP
  have hD : va_D A [(h, .inr (2, [.null, .null, .null, .null, .null, .null, .int 0, .null, .null, .null, .null, .int 0, .null, .int 0])), (ac, .inl (cJ, 64, .inl (ks_up ks_k 8)))] := hD
  refine lv_dup hx hb dX2_init_51 rfl ?_
  refine lv_bipush (v := 8) hx hb dX2_init_52 (by decide) ?_
  refine kz_top (y := nI 8) (by decide) ?_
  refine lv_ldc (v := (1770035416)) hx hb hown (hts (.constant RX2 15 (1770035416)) (by decide +kernel)) dX2_init_54 ?_
  refine kz_astK (j := 8) (T := ks_k) hx hb hK hP hD hS 1 0 rfl rfl (by decide) (by decide) (by decide +kernel) dX2_init_56 (fun H locs hP hD hS => ?_)
  have hP : va_P (dC, dI) vwCl [(h, .inr (2, [.null, .null, .null, .null, .null, .null, .int 0, .null, .null, .null, .null, .int 0, .null, .int 0])), (ac, .inl (cJ, 64, .inl (ks_up ks_k 9)))] H := hP
  have hD : va_D A [(h, .inr (2, [.null, .null, .null, .null, .null, .null, .int 0, .null, .null, .null, .null, .int 0, .null, .int 0])), (ac, .inl (cJ, 64, .inl (ks_up ks_k 9)))] := hD
  refine lv_dup hx hb dX2_init_57 rfl ?_
  refine lv_bipush (v := 9) hx hb dX2_init_58 (by decide) ?_
  refine kz_top (y := nI 9) (by decide) ?_
  refine lv_ldc (v := (-1958414417)) hx hb hown (hts (.constant RX2 16 (-1958414417)) (by decide +kernel)) dX2_init_60 ?_
  refine kz_astK (j := 9) (T := ks_k) hx hb hK hP hD hS 1 0 rfl rfl (by decide) (by decide) (by decide +kernel) dX2_init_62 (fun H locs hP hD hS => ?_)
  have hP : va_P (dC, dI) vwCl [(h, .inr (2, [.null, .null, .null, .null, .null, .null, .int 0, .null, .null, .null, .null, .int 0, .null, .int 0])), (ac, .inl (cJ, 64, .inl (ks_up ks_k 10)))] H := hP
  have hD : va_D A [(h, .inr (2, [.null, .null, .null, .null, .null, .null, .int 0, .null, .null, .null, .null, .int 0, .null, .int 0])), (ac, .inl (cJ, 64, .inl (ks_up ks_k 10)))] := hD
  refine lv_dup hx hb dX2_init_63 rfl ?_
  refine lv_bipush (v := 10) hx hb dX2_init_64 (by decide) ?_
  refine kz_top (y := nI 10) (by decide) ?_
  refine lv_ldc (v := (-42063)) hx hb hown (hts (.constant RX2 17 (-42063)) (by decide +kernel)) dX2_init_66 ?_
  refine kz_astK (j := 10) (T := ks_k) hx hb hK hP hD hS 1 0 rfl rfl (by decide) (by decide) (by decide +kernel) dX2_init_68 (fun H locs hP hD hS => ?_)
  have hP : va_P (dC, dI) vwCl [(h, .inr (2, [.null, .null, .null, .null, .null, .null, .int 0, .null, .null, .null, .null, .int 0, .null, .int 0])), (ac, .inl (cJ, 64, .inl (ks_up ks_k 11)))] H := hP
  have hD : va_D A [(h, .inr (2, [.null, .null, .null, .null, .null, .null, .int 0, .null, .null, .null, .null, .int 0, .null, .int 0])), (ac, .inl (cJ, 64, .inl (ks_up ks_k 11)))] := hD
  refine lv_dup hx hb dX2_init_69 rfl ?_
  refine lv_bipush (v := 11) hx hb dX2_init_70 (by decide) ?_
  refine kz_top (y := nI 11) (by decide) ?_
  refine lv_ldc (v := (-1990404162)) hx hb hown (hts (.constant RX2 18 (-1990404162)) (by decide +kernel)) dX2_init_72 ?_
  refine kz_astK (j := 11) (T := ks_k) hx hb hK hP hD hS 1 0 rfl rfl (by decide) (by decide) (by decide +kernel) dX2_init_74 (fun H locs hP hD hS => ?_)
  have hP : va_P (dC, dI) vwCl [(h, .inr (2, [.null, .null, .null, .null, .null, .null, .int 0, .null, .null, .null, .null, .int 0, .null, .int 0])), (ac, .inl (cJ, 64, .inl (ks_up ks_k 12)))] H := hP
  have hD : va_D A [(h, .inr (2, [.null, .null, .null, .null, .null, .null, .int 0, .null, .null, .null, .null, .int 0, .null, .int 0])), (ac, .inl (cJ, 64, .inl (ks_up ks_k 12)))] := hD
  refine lv_dup hx hb dX2_init_75 rfl ?_
  refine lv_bipush (v := 12) hx hb dX2_init_76 (by decide) ?_
  refine kz_top (y := nI 12) (by decide) ?_
  refine lv_ldc (v := (1804603682)) hx hb hown (hts (.constant RX2 19 (1804603682)) (by decide +kernel)) dX2_init_78 ?_
  refine kz_astK (j := 12) (T := ks_k) hx hb hK hP hD hS 1 0 rfl rfl (by decide) (by decide) (by decide +kernel) dX2_init_80 (fun H locs hP hD hS => ?_)
  have hP : va_P (dC, dI) vwCl [(h, .inr (2, [.null, .null, .null, .null, .null, .null, .int 0, .null, .null, .null, .null, .int 0, .null, .int 0])), (ac, .inl (cJ, 64, .inl (ks_up ks_k 13)))] H := hP
  have hD : va_D A [(h, .inr (2, [.null, .null, .null, .null, .null, .null, .int 0, .null, .null, .null, .null, .int 0, .null, .int 0])), (ac, .inl (cJ, 64, .inl (ks_up ks_k 13)))] := hD
  refine lv_dup hx hb dX2_init_81 rfl ?_
  refine lv_bipush (v := 13) hx hb dX2_init_82 (by decide) ?_
  refine kz_top (y := nI 13) (by decide) ?_
  refine lv_ldc (v := (-40341101)) hx hb hown (hts (.constant RX2 20 (-40341101)) (by decide +kernel)) dX2_init_84 ?_
  refine kz_astK (j := 13) (T := ks_k) hx hb hK hP hD hS 1 0 rfl rfl (by decide) (by decide) (by decide +kernel) dX2_init_86 (fun H locs hP hD hS => ?_)
  have hP : va_P (dC, dI) vwCl [(h, .inr (2, [.null, .null, .null, .null, .null, .null, .int 0, .null, .null, .null, .null, .int 0, .null, .int 0])), (ac, .inl (cJ, 64, .inl (ks_up ks_k 14)))] H := hP
  have hD : va_D A [(h, .inr (2, [.null, .null, .null, .null, .null, .null, .int 0, .null, .null, .null, .null, .int 0, .null, .int 0])), (ac, .inl (cJ, 64, .inl (ks_up ks_k 14)))] := hD
  refine lv_dup hx hb dX2_init_87 rfl ?_
  refine lv_bipush (v := 14) hx hb dX2_init_88 (by decide) ?_
  refine kz_top (y := nI 14) (by decide) ?_
  refine lv_ldc (v := (-1502002290)) hx hb hown (hts (.constant RX2 21 (-1502002290)) (by decide +kernel)) dX2_init_90 ?_
  refine kz_astK (j := 14) (T := ks_k) hx hb hK hP hD hS 1 0 rfl rfl (by decide) (by decide) (by decide +kernel) dX2_init_92 (fun H locs hP hD hS => ?_)
  have hP : va_P (dC, dI) vwCl [(h, .inr (2, [.null, .null, .null, .null, .null, .null, .int 0, .null, .null, .null, .null, .int 0, .null, .int 0])), (ac, .inl (cJ, 64, .inl (ks_up ks_k 15)))] H := hP
  have hD : va_D A [(h, .inr (2, [.null, .null, .null, .null, .null, .null, .int 0, .null, .null, .null, .null, .int 0, .null, .int 0])), (ac, .inl (cJ, 64, .inl (ks_up ks_k 15)))] := hD
  refine lv_dup hx hb dX2_init_93 rfl ?_
  refine lv_bipush (v := 15) hx hb dX2_init_94 (by decide) ?_
  refine kz_top (y := nI 15) (by decide) ?_
  refine lv_ldc (v := (1236535329)) hx hb hown (hts (.constant RX2 22 (1236535329)) (by decide +kernel)) dX2_init_96 ?_
  refine kz_astK (j := 15) (T := ks_k) hx hb hK hP hD hS 1 0 rfl rfl (by decide) (by decide) (by decide +kernel) dX2_init_98 (fun H locs hP hD hS => ?_)
  have hP : va_P (dC, dI) vwCl [(h, .inr (2, [.null, .null, .null, .null, .null, .null, .int 0, .null, .null, .null, .null, .int 0, .null, .int 0])), (ac, .inl (cJ, 64, .inl (ks_up ks_k 16)))] H := hP
  have hD : va_D A [(h, .inr (2, [.null, .null, .null, .null, .null, .null, .int 0, .null, .null, .null, .null, .int 0, .null, .int 0])), (ac, .inl (cJ, 64, .inl (ks_up ks_k 16)))] := hD
  refine lv_dup hx hb dX2_init_99 rfl ?_
  refine lv_bipush (v := 16) hx hb dX2_init_100 (by decide) ?_
  refine kz_top (y := nI 16) (by decide) ?_
  refine lv_ldc (v := (-165796510)) hx hb hown (hts (.constant RX2 23 (-165796510)) (by decide +kernel)) dX2_init_102 ?_
  refine kz_astK (j := 16) (T := ks_k) hx hb hK hP hD hS 1 0 rfl rfl (by decide) (by decide) (by decide +kernel) dX2_init_104 (fun H locs hP hD hS => ?_)
  have hP : va_P (dC, dI) vwCl [(h, .inr (2, [.null, .null, .null, .null, .null, .null, .int 0, .null, .null, .null, .null, .int 0, .null, .int 0])), (ac, .inl (cJ, 64, .inl (ks_up ks_k 17)))] H := hP
  have hD : va_D A [(h, .inr (2, [.null, .null, .null, .null, .null, .null, .int 0, .null, .null, .null, .null, .int 0, .null, .int 0])), (ac, .inl (cJ, 64, .inl (ks_up ks_k 17)))] := hD
  refine lv_dup hx hb dX2_init_105 rfl ?_
  refine lv_bipush (v := 17) hx hb dX2_init_106 (by decide) ?_
  refine kz_top (y := nI 17) (by decide) ?_
  refine lv_ldc (v := (-1069501632)) hx hb hown (hts (.constant RX2 24 (-1069501632)) (by decide +kernel)) dX2_init_108 ?_
  refine kz_astK (j := 17) (T := ks_k) hx hb hK hP hD hS 1 0 rfl rfl (by decide) (by decide) (by decide +kernel) dX2_init_110 (fun H locs hP hD hS => ?_)
  have hP : va_P (dC, dI) vwCl [(h, .inr (2, [.null, .null, .null, .null, .null, .null, .int 0, .null, .null, .null, .null, .int 0, .null, .int 0])), (ac, .inl (cJ, 64, .inl (ks_up ks_k 18)))] H := hP
  have hD : va_D A [(h, .inr (2, [.null, .null, .null, .null, .null, .null, .int 0, .null, .null, .null, .null, .int 0, .null, .int 0])), (ac, .inl (cJ, 64, .inl (ks_up ks_k 18)))] := hD
  refine lv_dup hx hb dX2_init_111 rfl ?_
  refine lv_bipush (v := 18) hx hb dX2_init_112 (by decide) ?_
  refine kz_top (y := nI 18) (by decide) ?_
  refine lv_ldc (v := (643717713)) hx hb hown (hts (.constant RX2 25 (643717713)) (by decide +kernel)) dX2_init_114 ?_
  refine kz_astK (j := 18) (T := ks_k) hx hb hK hP hD hS 1 0 rfl rfl (by decide) (by decide) (by decide +kernel) dX2_init_116 (fun H locs hP hD hS => ?_)
  have hP : va_P (dC, dI) vwCl [(h, .inr (2, [.null, .null, .null, .null, .null, .null, .int 0, .null, .null, .null, .null, .int 0, .null, .int 0])), (ac, .inl (cJ, 64, .inl (ks_up ks_k 19)))] H := hP
  have hD : va_D A [(h, .inr (2, [.null, .null, .null, .null, .null, .null, .int 0, .null, .null, .null, .null, .int 0, .null, .int 0])), (ac, .inl (cJ, 64, .inl (ks_up ks_k 19)))] := hD
  refine lv_dup hx hb dX2_init_117 rfl ?_
  refine lv_bipush (v := 19) hx hb dX2_init_118 (by decide) ?_
  refine kz_top (y := nI 19) (by decide) ?_
  refine lv_ldc (v := (-373897302)) hx hb hown (hts (.constant RX2 26 (-373897302)) (by decide +kernel)) dX2_init_120 ?_
  refine kz_astK (j := 19) (T := ks_k) hx hb hK hP hD hS 1 0 rfl rfl (by decide) (by decide) (by decide +kernel) dX2_init_122 (fun H locs hP hD hS => ?_)
  have hP : va_P (dC, dI) vwCl [(h, .inr (2, [.null, .null, .null, .null, .null, .null, .int 0, .null, .null, .null, .null, .int 0, .null, .int 0])), (ac, .inl (cJ, 64, .inl (ks_up ks_k 20)))] H := hP
  have hD : va_D A [(h, .inr (2, [.null, .null, .null, .null, .null, .null, .int 0, .null, .null, .null, .null, .int 0, .null, .int 0])), (ac, .inl (cJ, 64, .inl (ks_up ks_k 20)))] := hD
  refine lv_dup hx hb dX2_init_123 rfl ?_
  refine lv_bipush (v := 20) hx hb dX2_init_124 (by decide) ?_
  refine kz_top (y := nI 20) (by decide) ?_
  refine lv_ldc (v := (-701558691)) hx hb hown (hts (.constant RX2 27 (-701558691)) (by decide +kernel)) dX2_init_126 ?_
  refine kz_astK (j := 20) (T := ks_k) hx hb hK hP hD hS 1 0 rfl rfl (by decide) (by decide) (by decide +kernel) dX2_init_128 (fun H locs hP hD hS => ?_)
  have hP : va_P (dC, dI) vwCl [(h, .inr (2, [.null, .null, .null, .null, .null, .null, .int 0, .null, .null, .null, .null, .int 0, .null, .int 0])), (ac, .inl (cJ, 64, .inl (ks_up ks_k 21)))] H := hP
  have hD : va_D A [(h, .inr (2, [.null, .null, .null, .null, .null, .null, .int 0, .null, .null, .null, .null, .int 0, .null, .int 0])), (ac, .inl (cJ, 64, .inl (ks_up ks_k 21)))] := hD
  refine lv_dup hx hb dX2_init_129 rfl ?_
  refine lv_bipush (v := 21) hx hb dX2_init_130 (by decide) ?_
  refine kz_top (y := nI 21) (by decide) ?_
  refine lv_ldc (v := (38016083)) hx hb hown (hts (.constant RX2 28 (38016083)) (by decide +kernel)) dX2_init_132 ?_
  refine kz_astK (j := 21) (T := ks_k) hx hb hK hP hD hS 1 0 rfl rfl (by decide) (by decide) (by decide +kernel) dX2_init_134 (fun H locs hP hD hS => ?_)
  have hP : va_P (dC, dI) vwCl [(h, .inr (2, [.null, .null, .null, .null, .null, .null, .int 0, .null, .null, .null, .null, .int 0, .null, .int 0])), (ac, .inl (cJ, 64, .inl (ks_up ks_k 22)))] H := hP
  have hD : va_D A [(h, .inr (2, [.null, .null, .null, .null, .null, .null, .int 0, .null, .null, .null, .null, .int 0, .null, .int 0])), (ac, .inl (cJ, 64, .inl (ks_up ks_k 22)))] := hD
  refine lv_dup hx hb dX2_init_135 rfl ?_
  refine lv_bipush (v := 22) hx hb dX2_init_136 (by decide) ?_
  refine kz_top (y := nI 22) (by decide) ?_
  refine lv_ldc (v := (-660478335)) hx hb hown (hts (.constant RX2 29 (-660478335)) (by decide +kernel)) dX2_init_138 ?_
  refine kz_astK (j := 22) (T := ks_k) hx hb hK hP hD hS 1 0 rfl rfl (by decide) (by decide) (by decide +kernel) dX2_init_140 (fun H locs hP hD hS => ?_)
  have hP : va_P (dC, dI) vwCl [(h, .inr (2, [.null, .null, .null, .null, .null, .null, .int 0, .null, .null, .null, .null, .int 0, .null, .int 0])), (ac, .inl (cJ, 64, .inl (ks_up ks_k 23)))] H := hP
  have hD : va_D A [(h, .inr (2, [.null, .null, .null, .null, .null, .null, .int 0, .null, .null, .null, .null, .int 0, .null, .int 0])), (ac, .inl (cJ, 64, .inl (ks_up ks_k 23)))] := hD
  refine lv_dup hx hb dX2_init_141 rfl ?_
  refine lv_bipush (v := 23) hx hb dX2_init_142 (by decide) ?_
  refine kz_top (y := nI 23) (by decide) ?_
  refine lv_ldc (v := (-405537848)) hx hb hown (hts (.constant RX2 30 (-405537848)) (by decide +kernel)) dX2_init_144 ?_
  refine kz_astK (j := 23) (T := ks_k) hx hb hK hP hD hS 1 0 rfl rfl (by decide) (by decide) (by decide +kernel) dX2_init_146 (fun H locs hP hD hS => ?_)
  have hP : va_P (dC, dI) vwCl [(h, .inr (2, [.null, .null, .null, .null, .null, .null, .int 0, .null, .null, .null, .null, .int 0, .null, .int 0])), (ac, .inl (cJ, 64, .inl (ks_up ks_k 24)))] H := hP
  have hD : va_D A [(h, .inr (2, [.null, .null, .null, .null, .null, .null, .int 0, .null, .null, .null, .null, .int 0, .null, .int 0])), (ac, .inl (cJ, 64, .inl (ks_up ks_k 24)))] := hD
  refine lv_dup hx hb dX2_init_147 rfl ?_
  refine lv_bipush (v := 24) hx hb dX2_init_148 (by decide) ?_
  refine kz_top (y := nI 24) (by decide) ?_
  refine lv_ldc (v := (568446438)) hx hb hown (hts (.constant RX2 31 (568446438)) (by decide +kernel)) dX2_init_150 ?_
  refine kz_astK (j := 24) (T := ks_k) hx hb hK hP hD hS 1 0 rfl rfl (by decide) (by decide) (by decide +kernel) dX2_init_152 (fun H locs hP hD hS => ?_)
  have hP : va_P (dC, dI) vwCl [(h, .inr (2, [.null, .null, .null, .null, .null, .null, .int 0, .null, .null, .null, .null, .int 0, .null, .int 0])), (ac, .inl (cJ, 64, .inl (ks_up ks_k 25)))] H := hP
  have hD : va_D A [(h, .inr (2, [.null, .null, .null, .null, .null, .null, .int 0, .null, .null, .null, .null, .int 0, .null, .int 0])), (ac, .inl (cJ, 64, .inl (ks_up ks_k 25)))] := hD
  refine lv_dup hx hb dX2_init_153 rfl ?_
  refine lv_bipush (v := 25) hx hb dX2_init_154 (by decide) ?_
  refine kz_top (y := nI 25) (by decide) ?_
  refine lv_ldc (v := (-1019803690)) hx hb hown (hts (.constant RX2 32 (-1019803690)) (by decide +kernel)) dX2_init_156 ?_
  refine kz_astK (j := 25) (T := ks_k) hx hb hK hP hD hS 1 0 rfl rfl (by decide) (by decide) (by decide +kernel) dX2_init_158 (fun H locs hP hD hS => ?_)
  have hP : va_P (dC, dI) vwCl [(h, .inr (2, [.null, .null, .null, .null, .null, .null, .int 0, .null, .null, .null, .null, .int 0, .null, .int 0])), (ac, .inl (cJ, 64, .inl (ks_up ks_k 26)))] H := hP
  have hD : va_D A [(h, .inr (2, [.null, .null, .null, .null, .null, .null, .int 0, .null, .null, .null, .null, .int 0, .null, .int 0])), (ac, .inl (cJ, 64, .inl (ks_up ks_k 26)))] := hD
  refine lv_dup hx hb dX2_init_159 rfl ?_
  refine lv_bipush (v := 26) hx hb dX2_init_160 (by decide) ?_
  refine kz_top (y := nI 26) (by decide) ?_
  refine lv_ldc (v := (-187363961)) hx hb hown (hts (.constant RX2 33 (-187363961)) (by decide +kernel)) dX2_init_162 ?_
  refine kz_astK (j := 26) (T := ks_k) hx hb hK hP hD hS 1 0 rfl rfl (by decide) (by decide) (by decide +kernel) dX2_init_164 (fun H locs hP hD hS => ?_)
  have hP : va_P (dC, dI) vwCl [(h, .inr (2, [.null, .null, .null, .null, .null, .null, .int 0, .null, .null, .null, .null, .int 0, .null, .int 0])), (ac, .inl (cJ, 64, .inl (ks_up ks_k 27)))] H := hP
  have hD : va_D A [(h, .inr (2, [.null, .null, .null, .null, .null, .null, .int 0, .null, .null, .null, .null, .int 0, .null, .int 0])), (ac, .inl (cJ, 64, .inl (ks_up ks_k 27)))] := hD
  refine lv_dup hx hb dX2_init_165 rfl ?_
  refine lv_bipush (v := 27) hx hb dX2_init_166 (by decide) ?_
  refine kz_top (y := nI 27) (by decide) ?_
  refine lv_ldc (v := (1163531501)) hx hb hown (hts (.constant RX2 34 (1163531501)) (by decide +kernel)) dX2_init_168 ?_
  refine kz_astK (j := 27) (T := ks_k) hx hb hK hP hD hS 1 0 rfl rfl (by decide) (by decide) (by decide +kernel) dX2_init_170 (fun H locs hP hD hS => ?_)
  have hP : va_P (dC, dI) vwCl [(h, .inr (2, [.null, .null, .null, .null, .null, .null, .int 0, .null, .null, .null, .null, .int 0, .null, .int 0])), (ac, .inl (cJ, 64, .inl (ks_up ks_k 28)))] H := hP
  have hD : va_D A [(h, .inr (2, [.null, .null, .null, .null, .null, .null, .int 0, .null, .null, .null, .null, .int 0, .null, .int 0])), (ac, .inl (cJ, 64, .inl (ks_up ks_k 28)))] := hD
  refine lv_dup hx hb dX2_init_171 rfl ?_
  refine lv_bipush (v := 28) hx hb dX2_init_172 (by decide) ?_
  refine kz_top (y := nI 28) (by decide) ?_
  refine lv_ldc (v := (-1444681467)) hx hb hown (hts (.constant RX2 35 (-1444681467)) (by decide +kernel)) dX2_init_174 ?_
  refine kz_astK (j := 28) (T := ks_k) hx hb hK hP hD hS 1 0 rfl rfl (by decide) (by decide) (by decide +kernel) dX2_init_176 (fun H locs hP hD hS => ?_)
  have hP : va_P (dC, dI) vwCl [(h, .inr (2, [.null, .null, .null, .null, .null, .null, .int 0, .null, .null, .null, .null, .int 0, .null, .int 0])), (ac, .inl (cJ, 64, .inl (ks_up ks_k 29)))] H := hP
  have hD : va_D A [(h, .inr (2, [.null, .null, .null, .null, .null, .null, .int 0, .null, .null, .null, .null, .int 0, .null, .int 0])), (ac, .inl (cJ, 64, .inl (ks_up ks_k 29)))] := hD
  refine lv_dup hx hb dX2_init_177 rfl ?_
  refine lv_bipush (v := 29) hx hb dX2_init_178 (by decide) ?_
  refine kz_top (y := nI 29) (by decide) ?_
  refine lv_ldc (v := (-51403784)) hx hb hown (hts (.constant RX2 36 (-51403784)) (by decide +kernel)) dX2_init_180 ?_
  refine kz_astK (j := 29) (T := ks_k) hx hb hK hP hD hS 1 0 rfl rfl (by decide) (by decide) (by decide +kernel) dX2_init_182 (fun H locs hP hD hS => ?_)
  have hP : va_P (dC, dI) vwCl [(h, .inr (2, [.null, .null, .null, .null, .null, .null, .int 0, .null, .null, .null, .null, .int 0, .null, .int 0])), (ac, .inl (cJ, 64, .inl (ks_up ks_k 30)))] H := hP
  have hD : va_D A [(h, .inr (2, [.null, .null, .null, .null, .null, .null, .int 0, .null, .null, .null, .null, .int 0, .null, .int 0])), (ac, .inl (cJ, 64, .inl (ks_up ks_k 30)))] := hD
  refine lv_dup hx hb dX2_init_183 rfl ?_
  refine lv_bipush (v := 30) hx hb dX2_init_184 (by decide) ?_
  refine kz_top (y := nI 30) (by decide) ?_
  refine lv_ldc (v := (1735328473)) hx hb hown (hts (.constant RX2 37 (1735328473)) (by decide +kernel)) dX2_init_186 ?_
  refine kz_astK (j := 30) (T := ks_k) hx hb hK hP hD hS 1 0 rfl rfl (by decide) (by decide) (by decide +kernel) dX2_init_188 (fun H locs hP hD hS => ?_)
  have hP : va_P (dC, dI) vwCl [(h, .inr (2, [.null, .null, .null, .null, .null, .null, .int 0, .null, .null, .null, .null, .int 0, .null, .int 0])), (ac, .inl (cJ, 64, .inl (ks_up ks_k 31)))] H := hP
  have hD : va_D A [(h, .inr (2, [.null, .null, .null, .null, .null, .null, .int 0, .null, .null, .null, .null, .int 0, .null, .int 0])), (ac, .inl (cJ, 64, .inl (ks_up ks_k 31)))] := hD
  refine lv_dup hx hb dX2_init_189 rfl ?_
  refine lv_bipush (v := 31) hx hb dX2_init_190 (by decide) ?_
  refine kz_top (y := nI 31) (by decide) ?_
  refine lv_ldc (v := (-1926607734)) hx hb hown (hts (.constant RX2 38 (-1926607734)) (by decide +kernel)) dX2_init_192 ?_
  refine kz_astK (j := 31) (T := ks_k) hx hb hK hP hD hS 1 0 rfl rfl (by decide) (by decide) (by decide +kernel) dX2_init_194 (fun H locs hP hD hS => ?_)
  have hP : va_P (dC, dI) vwCl [(h, .inr (2, [.null, .null, .null, .null, .null, .null, .int 0, .null, .null, .null, .null, .int 0, .null, .int 0])), (ac, .inl (cJ, 64, .inl (ks_up ks_k 32)))] H := hP
  have hD : va_D A [(h, .inr (2, [.null, .null, .null, .null, .null, .null, .int 0, .null, .null, .null, .null, .int 0, .null, .int 0])), (ac, .inl (cJ, 64, .inl (ks_up ks_k 32)))] := hD
  refine lv_dup hx hb dX2_init_195 rfl ?_
  refine lv_bipush (v := 32) hx hb dX2_init_196 (by decide) ?_
  refine kz_top (y := nI 32) (by decide) ?_
  refine lv_ldc (v := (-378558)) hx hb hown (hts (.constant RX2 39 (-378558)) (by decide +kernel)) dX2_init_198 ?_
  refine kz_astK (j := 32) (T := ks_k) hx hb hK hP hD hS 1 0 rfl rfl (by decide) (by decide) (by decide +kernel) dX2_init_200 (fun H locs hP hD hS => ?_)
  have hP : va_P (dC, dI) vwCl [(h, .inr (2, [.null, .null, .null, .null, .null, .null, .int 0, .null, .null, .null, .null, .int 0, .null, .int 0])), (ac, .inl (cJ, 64, .inl (ks_up ks_k 33)))] H := hP
  have hD : va_D A [(h, .inr (2, [.null, .null, .null, .null, .null, .null, .int 0, .null, .null, .null, .null, .int 0, .null, .int 0])), (ac, .inl (cJ, 64, .inl (ks_up ks_k 33)))] := hD
  refine lv_dup hx hb dX2_init_201 rfl ?_
  refine lv_bipush (v := 33) hx hb dX2_init_202 (by decide) ?_
  refine kz_top (y := nI 33) (by decide) ?_
  refine lv_ldc (v := (-2022574463)) hx hb hown (hts (.constant RX2 40 (-2022574463)) (by decide +kernel)) dX2_init_204 ?_
  refine kz_astK (j := 33) (T := ks_k) hx hb hK hP hD hS 1 0 rfl rfl (by decide) (by decide) (by decide +kernel) dX2_init_206 (fun H locs hP hD hS => ?_)
  have hP : va_P (dC, dI) vwCl [(h, .inr (2, [.null, .null, .null, .null, .null, .null, .int 0, .null, .null, .null, .null, .int 0, .null, .int 0])), (ac, .inl (cJ, 64, .inl (ks_up ks_k 34)))] H := hP
  have hD : va_D A [(h, .inr (2, [.null, .null, .null, .null, .null, .null, .int 0, .null, .null, .null, .null, .int 0, .null, .int 0])), (ac, .inl (cJ, 64, .inl (ks_up ks_k 34)))] := hD
  refine lv_dup hx hb dX2_init_207 rfl ?_
  refine lv_bipush (v := 34) hx hb dX2_init_208 (by decide) ?_
  refine kz_top (y := nI 34) (by decide) ?_
  refine lv_ldc (v := (1839030562)) hx hb hown (hts (.constant RX2 41 (1839030562)) (by decide +kernel)) dX2_init_210 ?_
  refine kz_astK (j := 34) (T := ks_k) hx hb hK hP hD hS 1 0 rfl rfl (by decide) (by decide) (by decide +kernel) dX2_init_212 (fun H locs hP hD hS => ?_)
  have hP : va_P (dC, dI) vwCl [(h, .inr (2, [.null, .null, .null, .null, .null, .null, .int 0, .null, .null, .null, .null, .int 0, .null, .int 0])), (ac, .inl (cJ, 64, .inl (ks_up ks_k 35)))] H := hP
  have hD : va_D A [(h, .inr (2, [.null, .null, .null, .null, .null, .null, .int 0, .null, .null, .null, .null, .int 0, .null, .int 0])), (ac, .inl (cJ, 64, .inl (ks_up ks_k 35)))] := hD
  refine lv_dup hx hb dX2_init_213 rfl ?_
  refine lv_bipush (v := 35) hx hb dX2_init_214 (by decide) ?_
  refine kz_top (y := nI 35) (by decide) ?_
  refine lv_ldc (v := (-35309556)) hx hb hown (hts (.constant RX2 42 (-35309556)) (by decide +kernel)) dX2_init_216 ?_
  refine kz_astK (j := 35) (T := ks_k) hx hb hK hP hD hS 1 0 rfl rfl (by decide) (by decide) (by decide +kernel) dX2_init_218 (fun H locs hP hD hS => ?_)
  have hP : va_P (dC, dI) vwCl [(h, .inr (2, [.null, .null, .null, .null, .null, .null, .int 0, .null, .null, .null, .null, .int 0, .null, .int 0])), (ac, .inl (cJ, 64, .inl (ks_up ks_k 36)))] H := hP
  have hD : va_D A [(h, .inr (2, [.null, .null, .null, .null, .null, .null, .int 0, .null, .null, .null, .null, .int 0, .null, .int 0])), (ac, .inl (cJ, 64, .inl (ks_up ks_k 36)))] := hD
  refine lv_dup hx hb dX2_init_219 rfl ?_
  refine lv_bipush (v := 36) hx hb dX2_init_220 (by decide) ?_
  refine kz_top (y := nI 36) (by decide) ?_
  refine lv_ldc (v := (-1530992060)) hx hb hown (hts (.constant RX2 43 (-1530992060)) (by decide +kernel)) dX2_init_222 ?_
  refine kz_astK (j := 36) (T := ks_k) hx hb hK hP hD hS 1 0 rfl rfl (by decide) (by decide) (by decide +kernel) dX2_init_224 (fun H locs hP hD hS => ?_)
  have hP : va_P (dC, dI) vwCl [(h, .inr (2, [.null, .null, .null, .null, .null, .null, .int 0, .null, .null, .null, .null, .int 0, .null, .int 0])), (ac, .inl (cJ, 64, .inl (ks_up ks_k 37)))] H := hP
  have hD : va_D A [(h, .inr (2, [.null, .null, .null, .null, .null, .null, .int 0, .null, .null, .null, .null, .int 0, .null, .int 0])), (ac, .inl (cJ, 64, .inl (ks_up ks_k 37)))] := hD
  refine lv_dup hx hb dX2_init_225 rfl ?_
  refine lv_bipush (v := 37) hx hb dX2_init_226 (by decide) ?_
  refine kz_top (y := nI 37) (by decide) ?_
  refine lv_ldc (v := (1272893353)) hx hb hown (hts (.constant RX2 44 (1272893353)) (by decide +kernel)) dX2_init_228 ?_
  refine kz_astK (j := 37) (T := ks_k) hx hb hK hP hD hS 1 0 rfl rfl (by decide) (by decide) (by decide +kernel) dX2_init_230 (fun H locs hP hD hS => ?_)
  have hP : va_P (dC, dI) vwCl [(h, .inr (2, [.null, .null, .null, .null, .null, .null, .int 0, .null, .null, .null, .null, .int 0, .null, .int 0])), (ac, .inl (cJ, 64, .inl (ks_up ks_k 38)))] H := hP
  have hD : va_D A [(h, .inr (2, [.null, .null, .null, .null, .null, .null, .int 0, .null, .null, .null, .null, .int 0, .null, .int 0])), (ac, .inl (cJ, 64, .inl (ks_up ks_k 38)))] := hD
  refine lv_dup hx hb dX2_init_231 rfl ?_
  refine lv_bipush (v := 38) hx hb dX2_init_232 (by decide) ?_
  refine kz_top (y := nI 38) (by decide) ?_
  refine lv_ldc (v := (-155497632)) hx hb hown (hts (.constant RX2 45 (-155497632)) (by decide +kernel)) dX2_init_234 ?_
  refine kz_astK (j := 38) (T := ks_k) hx hb hK hP hD hS 1 0 rfl rfl (by decide) (by decide) (by decide +kernel) dX2_init_236 (fun H locs hP hD hS => ?_)
  have hP : va_P (dC, dI) vwCl [(h, .inr (2, [.null, .null, .null, .null, .null, .null, .int 0, .null, .null, .null, .null, .int 0, .null, .int 0])), (ac, .inl (cJ, 64, .inl (ks_up ks_k 39)))] H := hP
  have hD : va_D A [(h, .inr (2, [.null, .null, .null, .null, .null, .null, .int 0, .null, .null, .null, .null, .int 0, .null, .int 0])), (ac, .inl (cJ, 64, .inl (ks_up ks_k 39)))] := hD
  refine lv_dup hx hb dX2_init_237 rfl ?_
  refine lv_bipush (v := 39) hx hb dX2_init_238 (by decide) ?_
  refine kz_top (y := nI 39) (by decide) ?_
  refine lv_ldc (v := (-1094730640)) hx hb hown (hts (.constant RX2 46 (-1094730640)) (by decide +kernel)) dX2_init_240 ?_
  refine kz_astK (j := 39) (T := ks_k) hx hb hK hP hD hS 1 0 rfl rfl (by decide) (by decide) (by decide +kernel) dX2_init_242 (fun H locs hP hD hS => ?_)
  have hP : va_P (dC, dI) vwCl [(h, .inr (2, [.null, .null, .null, .null, .null, .null, .int 0, .null, .null, .null, .null, .int 0, .null, .int 0])), (ac, .inl (cJ, 64, .inl (ks_up ks_k 40)))] H := hP
  have hD : va_D A [(h, .inr (2, [.null, .null, .null, .null, .null, .null, .int 0, .null, .null, .null, .null, .int 0, .null, .int 0])), (ac, .inl (cJ, 64, .inl (ks_up ks_k 40)))] := hD
  refine lv_dup hx hb dX2_init_243 rfl ?_
  refine lv_bipush (v := 40) hx hb dX2_init_244 (by decide) ?_
  refine kz_top (y := nI 40) (by decide) ?_
  refine lv_ldc (v := (681279174)) hx hb hown (hts (.constant RX2 47 (681279174)) (by decide +kernel)) dX2_init_246 ?_
  refine kz_astK (j := 40) (T := ks_k) hx hb hK hP hD hS 1 0 rfl rfl (by decide) (by decide) (by decide +kernel) dX2_init_248 (fun H locs hP hD hS => ?_)
  have hP : va_P (dC, dI) vwCl [(h, .inr (2, [.null, .null, .null, .null, .null, .null, .int 0, .null, .null, .null, .null, .int 0, .null, .int 0])), (ac, .inl (cJ, 64, .inl (ks_up ks_k 41)))] H := hP
  have hD : va_D A [(h, .inr (2, [.null, .null, .null, .null, .null, .null, .int 0, .null, .null, .null, .null, .int 0, .null, .int 0])), (ac, .inl (cJ, 64, .inl (ks_up ks_k 41)))] := hD
  refine lv_dup hx hb dX2_init_249 rfl ?_
  refine lv_bipush (v := 41) hx hb dX2_init_250 (by decide) ?_
  refine kz_top (y := nI 41) (by decide) ?_
  refine lv_ldc (v := (-358537222)) hx hb hown (hts (.constant RX2 48 (-358537222)) (by decide +kernel)) dX2_init_252 ?_
  refine kz_astK (j := 41) (T := ks_k) hx hb hK hP hD hS 1 0 rfl rfl (by decide) (by decide) (by decide +kernel) dX2_init_254 (fun H locs hP hD hS => ?_)
  have hP : va_P (dC, dI) vwCl [(h, .inr (2, [.null, .null, .null, .null, .null, .null, .int 0, .null, .null, .null, .null, .int 0, .null, .int 0])), (ac, .inl (cJ, 64, .inl (ks_up ks_k 42)))] H := hP
  have hD : va_D A [(h, .inr (2, [.null, .null, .null, .null, .null, .null, .int 0, .null, .null, .null, .null, .int 0, .null, .int 0])), (ac, .inl (cJ, 64, .inl (ks_up ks_k 42)))] := hD
  refine lv_dup hx hb dX2_init_255 rfl ?_
  refine lv_bipush (v := 42) hx hb dX2_init_256 (by decide) ?_
  refine kz_top (y := nI 42) (by decide) ?_
  refine lv_ldc (v := (-722521979)) hx hb hown (hts (.constant RX2 49 (-722521979)) (by decide +kernel)) dX2_init_258 ?_
  refine kz_astK (j := 42) (T := ks_k) hx hb hK hP hD hS 1 0 rfl rfl (by decide) (by decide) (by decide +kernel) dX2_init_260 (fun H locs hP hD hS => ?_)
  have hP : va_P (dC, dI) vwCl [(h, .inr (2, [.null, .null, .null, .null, .null, .null, .int 0, .null, .null, .null, .null, .int 0, .null, .int 0])), (ac, .inl (cJ, 64, .inl (ks_up ks_k 43)))] H := hP
  have hD : va_D A [(h, .inr (2, [.null, .null, .null, .null, .null, .null, .int 0, .null, .null, .null, .null, .int 0, .null, .int 0])), (ac, .inl (cJ, 64, .inl (ks_up ks_k 43)))] := hD
  refine lv_dup hx hb dX2_init_261 rfl ?_
  refine lv_bipush (v := 43) hx hb dX2_init_262 (by decide) ?_
  refine kz_top (y := nI 43) (by decide) ?_
  refine lv_ldc (v := (76029189)) hx hb hown (hts (.constant RX2 50 (76029189)) (by decide +kernel)) dX2_init_264 ?_
  refine kz_astK (j := 43) (T := ks_k) hx hb hK hP hD hS 1 0 rfl rfl (by decide) (by decide) (by decide +kernel) dX2_init_266 (fun H locs hP hD hS => ?_)
  have hP : va_P (dC, dI) vwCl [(h, .inr (2, [.null, .null, .null, .null, .null, .null, .int 0, .null, .null, .null, .null, .int 0, .null, .int 0])), (ac, .inl (cJ, 64, .inl (ks_up ks_k 44)))] H := hP
  have hD : va_D A [(h, .inr (2, [.null, .null, .null, .null, .null, .null, .int 0, .null, .null, .null, .null, .int 0, .null, .int 0])), (ac, .inl (cJ, 64, .inl (ks_up ks_k 44)))] := hD
  refine lv_dup hx hb dX2_init_267 rfl ?_
  refine lv_bipush (v := 44) hx hb dX2_init_268 (by decide) ?_
  refine kz_top (y := nI 44) (by decide) ?_
  refine lv_ldc (v := (-640364487)) hx hb hown (hts (.constant RX2 51 (-640364487)) (by decide +kernel)) dX2_init_270 ?_
  refine kz_astK (j := 44) (T := ks_k) hx hb hK hP hD hS 1 0 rfl rfl (by decide) (by decide) (by decide +kernel) dX2_init_272 (fun H locs hP hD hS => ?_)
  have hP : va_P (dC, dI) vwCl [(h, .inr (2, [.null, .null, .null, .null, .null, .null, .int 0, .null, .null, .null, .null, .int 0, .null, .int 0])), (ac, .inl (cJ, 64, .inl (ks_up ks_k 45)))] H := hP
  have hD : va_D A [(h, .inr (2, [.null, .null, .null, .null, .null, .null, .int 0, .null, .null, .null, .null, .int 0, .null, .int 0])), (ac, .inl (cJ, 64, .inl (ks_up ks_k 45)))] := hD
  refine lv_dup hx hb dX2_init_273 rfl ?_
  refine lv_bipush (v := 45) hx hb dX2_init_274 (by decide) ?_
  refine kz_top (y := nI 45) (by decide) ?_
  refine lv_ldc (v := (-421815835)) hx hb hown (hts (.constant RX2 52 (-421815835)) (by decide +kernel)) dX2_init_276 ?_
  refine kz_astK (j := 45) (T := ks_k) hx hb hK hP hD hS 1 0 rfl rfl (by decide) (by decide) (by decide +kernel) dX2_init_278 (fun H locs hP hD hS => ?_)
  have hP : va_P (dC, dI) vwCl [(h, .inr (2, [.null, .null, .null, .null, .null, .null, .int 0, .null, .null, .null, .null, .int 0, .null, .int 0])), (ac, .inl (cJ, 64, .inl (ks_up ks_k 46)))] H := hP
  have hD : va_D A [(h, .inr (2, [.null, .null, .null, .null, .null, .null, .int 0, .null, .null, .null, .null, .int 0, .null, .int 0])), (ac, .inl (cJ, 64, .inl (ks_up ks_k 46)))] := hD
  refine lv_dup hx hb dX2_init_279 rfl ?_
  refine lv_bipush (v := 46) hx hb dX2_init_280 (by decide) ?_
  refine kz_top (y := nI 46) (by decide) ?_
  refine lv_ldc (v := (530742520)) hx hb hown (hts (.constant RX2 53 (530742520)) (by decide +kernel)) dX2_init_282 ?_
  refine kz_astK (j := 46) (T := ks_k) hx hb hK hP hD hS 1 0 rfl rfl (by decide) (by decide) (by decide +kernel) dX2_init_284 (fun H locs hP hD hS => ?_)
  have hP : va_P (dC, dI) vwCl [(h, .inr (2, [.null, .null, .null, .null, .null, .null, .int 0, .null, .null, .null, .null, .int 0, .null, .int 0])), (ac, .inl (cJ, 64, .inl (ks_up ks_k 47)))] H := hP
  have hD : va_D A [(h, .inr (2, [.null, .null, .null, .null, .null, .null, .int 0, .null, .null, .null, .null, .int 0, .null, .int 0])), (ac, .inl (cJ, 64, .inl (ks_up ks_k 47)))] := hD
  refine lv_dup hx hb dX2_init_285 rfl ?_
  refine lv_bipush (v := 47) hx hb dX2_init_286 (by decide) ?_
  refine kz_top (y := nI 47) (by decide) ?_
  refine lv_ldc (v := (-995338651)) hx hb hown (hts (.constant RX2 54 (-995338651)) (by decide +kernel)) dX2_init_288 ?_
  refine kz_astK (j := 47) (T := ks_k) hx hb hK hP hD hS 1 0 rfl rfl (by decide) (by decide) (by decide +kernel) dX2_init_290 (fun H locs hP hD hS => ?_)
  have hP : va_P (dC, dI) vwCl [(h, .inr (2, [.null, .null, .null, .null, .null, .null, .int 0, .null, .null, .null, .null, .int 0, .null, .int 0])), (ac, .inl (cJ, 64, .inl (ks_up ks_k 48)))] H := hP
  have hD : va_D A [(h, .inr (2, [.null, .null, .null, .null, .null, .null, .int 0, .null, .null, .null, .null, .int 0, .null, .int 0])), (ac, .inl (cJ, 64, .inl (ks_up ks_k 48)))] := hD
  refine lv_dup hx hb dX2_init_291 rfl ?_
  refine lv_bipush (v := 48) hx hb dX2_init_292 (by decide) ?_
  refine kz_top (y := nI 48) (by decide) ?_
  refine lv_ldc (v := (-198630844)) hx hb hown (hts (.constant RX2 55 (-198630844)) (by decide +kernel)) dX2_init_294 ?_
  refine kz_astK (j := 48) (T := ks_k) hx hb hK hP hD hS 1 0 rfl rfl (by decide) (by decide) (by decide +kernel) dX2_init_296 (fun H locs hP hD hS => ?_)
  have hP : va_P (dC, dI) vwCl [(h, .inr (2, [.null, .null, .null, .null, .null, .null, .int 0, .null, .null, .null, .null, .int 0, .null, .int 0])), (ac, .inl (cJ, 64, .inl (ks_up ks_k 49)))] H := hP
  have hD : va_D A [(h, .inr (2, [.null, .null, .null, .null, .null, .null, .int 0, .null, .null, .null, .null, .int 0, .null, .int 0])), (ac, .inl (cJ, 64, .inl (ks_up ks_k 49)))] := hD
  refine lv_dup hx hb dX2_init_297 rfl ?_
  refine lv_bipush (v := 49) hx hb dX2_init_298 (by decide) ?_
  refine kz_top (y := nI 49) (by decide) ?_
  refine lv_ldc (v := (1126891415)) hx hb hown (hts (.constant RX2 56 (1126891415)) (by decide +kernel)) dX2_init_300 ?_
  refine kz_astK (j := 49) (T := ks_k) hx hb hK hP hD hS 1 0 rfl rfl (by decide) (by decide) (by decide +kernel) dX2_init_302 (fun H locs hP hD hS => ?_)
  have hP : va_P (dC, dI) vwCl [(h, .inr (2, [.null, .null, .null, .null, .null, .null, .int 0, .null, .null, .null, .null, .int 0, .null, .int 0])), (ac, .inl (cJ, 64, .inl (ks_up ks_k 50)))] H := hP
  have hD : va_D A [(h, .inr (2, [.null, .null, .null, .null, .null, .null, .int 0, .null, .null, .null, .null, .int 0, .null, .int 0])), (ac, .inl (cJ, 64, .inl (ks_up ks_k 50)))] := hD
  refine lv_dup hx hb dX2_init_303 rfl ?_
  refine lv_bipush (v := 50) hx hb dX2_init_304 (by decide) ?_
  refine kz_top (y := nI 50) (by decide) ?_
  refine lv_ldc (v := (-1416354905)) hx hb hown (hts (.constant RX2 57 (-1416354905)) (by decide +kernel)) dX2_init_306 ?_
  refine kz_astK (j := 50) (T := ks_k) hx hb hK hP hD hS 1 0 rfl rfl (by decide) (by decide) (by decide +kernel) dX2_init_308 (fun H locs hP hD hS => ?_)
  have hP : va_P (dC, dI) vwCl [(h, .inr (2, [.null, .null, .null, .null, .null, .null, .int 0, .null, .null, .null, .null, .int 0, .null, .int 0])), (ac, .inl (cJ, 64, .inl (ks_up ks_k 51)))] H := hP
  have hD : va_D A [(h, .inr (2, [.null, .null, .null, .null, .null, .null, .int 0, .null, .null, .null, .null, .int 0, .null, .int 0])), (ac, .inl (cJ, 64, .inl (ks_up ks_k 51)))] := hD
  refine lv_dup hx hb dX2_init_309 rfl ?_
  refine lv_bipush (v := 51) hx hb dX2_init_310 (by decide) ?_
  refine kz_top (y := nI 51) (by decide) ?_
  refine lv_ldc (v := (-57434055)) hx hb hown (hts (.constant RX2 58 (-57434055)) (by decide +kernel)) dX2_init_312 ?_
  refine kz_astK (j := 51) (T := ks_k) hx hb hK hP hD hS 1 0 rfl rfl (by decide) (by decide) (by decide +kernel) dX2_init_314 (fun H locs hP hD hS => ?_)
  have hP : va_P (dC, dI) vwCl [(h, .inr (2, [.null, .null, .null, .null, .null, .null, .int 0, .null, .null, .null, .null, .int 0, .null, .int 0])), (ac, .inl (cJ, 64, .inl (ks_up ks_k 52)))] H := hP
  have hD : va_D A [(h, .inr (2, [.null, .null, .null, .null, .null, .null, .int 0, .null, .null, .null, .null, .int 0, .null, .int 0])), (ac, .inl (cJ, 64, .inl (ks_up ks_k 52)))] := hD
  refine lv_dup hx hb dX2_init_315 rfl ?_
  refine lv_bipush (v := 52) hx hb dX2_init_316 (by decide) ?_
  refine kz_top (y := nI 52) (by decide) ?_
  refine lv_ldc (v := (1700485571)) hx hb hown (hts (.constant RX2 59 (1700485571)) (by decide +kernel)) dX2_init_318 ?_
  refine kz_astK (j := 52) (T := ks_k) hx hb hK hP hD hS 1 0 rfl rfl (by decide) (by decide) (by decide +kernel) dX2_init_320 (fun H locs hP hD hS => ?_)
  have hP : va_P (dC, dI) vwCl [(h, .inr (2, [.null, .null, .null, .null, .null, .null, .int 0, .null, .null, .null, .null, .int 0, .null, .int 0])), (ac, .inl (cJ, 64, .inl (ks_up ks_k 53)))] H := hP
  have hD : va_D A [(h, .inr (2, [.null, .null, .null, .null, .null, .null, .int 0, .null, .null, .null, .null, .int 0, .null, .int 0])), (ac, .inl (cJ, 64, .inl (ks_up ks_k 53)))] := hD
  refine lv_dup hx hb dX2_init_321 rfl ?_
  refine lv_bipush (v := 53) hx hb dX2_init_322 (by decide) ?_
  refine kz_top (y := nI 53) (by decide) ?_
  refine lv_ldc (v := (-1894986606)) hx hb hown (hts (.constant RX2 60 (-1894986606)) (by decide +kernel)) dX2_init_324 ?_
  refine kz_astK (j := 53) (T := ks_k) hx hb hK hP hD hS 1 0 rfl rfl (by decide) (by decide) (by decide +kernel) dX2_init_326 (fun H locs hP hD hS => ?_)
  have hP : va_P (dC, dI) vwCl [(h, .inr (2, [.null, .null, .null, .null, .null, .null, .int 0, .null, .null, .null, .null, .int 0, .null, .int 0])), (ac, .inl (cJ, 64, .inl (ks_up ks_k 54)))] H := hP
  have hD : va_D A [(h, .inr (2, [.null, .null, .null, .null, .null, .null, .int 0, .null, .null, .null, .null, .int 0, .null, .int 0])), (ac, .inl (cJ, 64, .inl (ks_up ks_k 54)))] := hD
  refine lv_dup hx hb dX2_init_327 rfl ?_
  refine lv_bipush (v := 54) hx hb dX2_init_328 (by decide) ?_
  refine kz_top (y := nI 54) (by decide) ?_
  refine lv_ldc (v := (-1051523)) hx hb hown (hts (.constant RX2 61 (-1051523)) (by decide +kernel)) dX2_init_330 ?_
  refine kz_astK (j := 54) (T := ks_k) hx hb hK hP hD hS 1 0 rfl rfl (by decide) (by decide) (by decide +kernel) dX2_init_332 (fun H locs hP hD hS => ?_)
  have hP : va_P (dC, dI) vwCl [(h, .inr (2, [.null, .null, .null, .null, .null, .null, .int 0, .null, .null, .null, .null, .int 0, .null, .int 0])), (ac, .inl (cJ, 64, .inl (ks_up ks_k 55)))] H := hP
  have hD : va_D A [(h, .inr (2, [.null, .null, .null, .null, .null, .null, .int 0, .null, .null, .null, .null, .int 0, .null, .int 0])), (ac, .inl (cJ, 64, .inl (ks_up ks_k 55)))] := hD
  refine lv_dup hx hb dX2_init_333 rfl ?_
  refine lv_bipush (v := 55) hx hb dX2_init_334 (by decide) ?_
  refine kz_top (y := nI 55) (by decide) ?_
  refine lv_ldc (v := (-2054922799)) hx hb hown (hts (.constant RX2 62 (-2054922799)) (by decide +kernel)) dX2_init_336 ?_
  refine kz_astK (j := 55) (T := ks_k) hx hb hK hP hD hS 1 0 rfl rfl (by decide) (by decide) (by decide +kernel) dX2_init_338 (fun H locs hP hD hS => ?_)
  have hP : va_P (dC, dI) vwCl [(h, .inr (2, [.null, .null, .null, .null, .null, .null, .int 0, .null, .null, .null, .null, .int 0, .null, .int 0])), (ac, .inl (cJ, 64, .inl (ks_up ks_k 56)))] H := hP
  have hD : va_D A [(h, .inr (2, [.null, .null, .null, .null, .null, .null, .int 0, .null, .null, .null, .null, .int 0, .null, .int 0])), (ac, .inl (cJ, 64, .inl (ks_up ks_k 56)))] := hD
  refine lv_dup hx hb dX2_init_339 rfl ?_
  refine lv_bipush (v := 56) hx hb dX2_init_340 (by decide) ?_
  refine kz_top (y := nI 56) (by decide) ?_
  refine lv_ldc (v := (1873313359)) hx hb hown (hts (.constant RX2 63 (1873313359)) (by decide +kernel)) dX2_init_342 ?_
  refine kz_astK (j := 56) (T := ks_k) hx hb hK hP hD hS 1 0 rfl rfl (by decide) (by decide) (by decide +kernel) dX2_init_344 (fun H locs hP hD hS => ?_)
  have hP : va_P (dC, dI) vwCl [(h, .inr (2, [.null, .null, .null, .null, .null, .null, .int 0, .null, .null, .null, .null, .int 0, .null, .int 0])), (ac, .inl (cJ, 64, .inl (ks_up ks_k 57)))] H := hP
  have hD : va_D A [(h, .inr (2, [.null, .null, .null, .null, .null, .null, .int 0, .null, .null, .null, .null, .int 0, .null, .int 0])), (ac, .inl (cJ, 64, .inl (ks_up ks_k 57)))] := hD
  refine lv_dup hx hb dX2_init_345 rfl ?_
  refine lv_bipush (v := 57) hx hb dX2_init_346 (by decide) ?_
  refine kz_top (y := nI 57) (by decide) ?_
  refine lv_ldc (v := (-30611744)) hx hb hown (hts (.constant RX2 64 (-30611744)) (by decide +kernel)) dX2_init_348 ?_
  refine kz_astK (j := 57) (T := ks_k) hx hb hK hP hD hS 1 0 rfl rfl (by decide) (by decide) (by decide +kernel) dX2_init_350 (fun H locs hP hD hS => ?_)
  have hP : va_P (dC, dI) vwCl [(h, .inr (2, [.null, .null, .null, .null, .null, .null, .int 0, .null, .null, .null, .null, .int 0, .null, .int 0])), (ac, .inl (cJ, 64, .inl (ks_up ks_k 58)))] H := hP
  have hD : va_D A [(h, .inr (2, [.null, .null, .null, .null, .null, .null, .int 0, .null, .null, .null, .null, .int 0, .null, .int 0])), (ac, .inl (cJ, 64, .inl (ks_up ks_k 58)))] := hD
  refine lv_dup hx hb dX2_init_351 rfl ?_
  refine lv_bipush (v := 58) hx hb dX2_init_352 (by decide) ?_
  refine kz_top (y := nI 58) (by decide) ?_
  refine lv_ldc (v := (-1560198380)) hx hb hown (hts (.constant RX2 65 (-1560198380)) (by decide +kernel)) dX2_init_354 ?_
  refine kz_astK (j := 58) (T := ks_k) hx hb hK hP hD hS 1 0 rfl rfl (by decide) (by decide) (by decide +kernel) dX2_init_356 (fun H locs hP hD hS => ?_)
  have hP : va_P (dC, dI) vwCl [(h, .inr (2, [.null, .null, .null, .null, .null, .null, .int 0, .null, .null, .null, .null, .int 0, .null, .int 0])), (ac, .inl (cJ, 64, .inl (ks_up ks_k 59)))] H := hP
  have hD : va_D A [(h, .inr (2, [.null, .null, .null, .null, .null, .null, .int 0, .null, .null, .null, .null, .int 0, .null, .int 0])), (ac, .inl (cJ, 64, .inl (ks_up ks_k 59)))] := hD
  refine lv_dup hx hb dX2_init_357 rfl ?_
  refine lv_bipush (v := 59) hx hb dX2_init_358 (by decide) ?_
  refine kz_top (y := nI 59) (by decide) ?_
  refine lv_ldc (v := (1309151649)) hx hb hown (hts (.constant RX2 66 (1309151649)) (by decide +kernel)) dX2_init_360 ?_
  refine kz_astK (j := 59) (T := ks_k) hx hb hK hP hD hS 1 0 rfl rfl (by decide) (by decide) (by decide +kernel) dX2_init_362 (fun H locs hP hD hS => ?_)
  have hP : va_P (dC, dI) vwCl [(h, .inr (2, [.null, .null, .null, .null, .null, .null, .int 0, .null, .null, .null, .null, .int 0, .null, .int 0])), (ac, .inl (cJ, 64, .inl (ks_up ks_k 60)))] H := hP
  have hD : va_D A [(h, .inr (2, [.null, .null, .null, .null, .null, .null, .int 0, .null, .null, .null, .null, .int 0, .null, .int 0])), (ac, .inl (cJ, 64, .inl (ks_up ks_k 60)))] := hD
  refine lv_dup hx hb dX2_init_363 rfl ?_
  refine lv_bipush (v := 60) hx hb dX2_init_364 (by decide) ?_
  refine kz_top (y := nI 60) (by decide) ?_
  refine lv_ldc (v := (-145523070)) hx hb hown (hts (.constant RX2 67 (-145523070)) (by decide +kernel)) dX2_init_366 ?_
  refine kz_astK (j := 60) (T := ks_k) hx hb hK hP hD hS 1 0 rfl rfl (by decide) (by decide) (by decide +kernel) dX2_init_368 (fun H locs hP hD hS => ?_)
  have hP : va_P (dC, dI) vwCl [(h, .inr (2, [.null, .null, .null, .null, .null, .null, .int 0, .null, .null, .null, .null, .int 0, .null, .int 0])), (ac, .inl (cJ, 64, .inl (ks_up ks_k 61)))] H := hP
  have hD : va_D A [(h, .inr (2, [.null, .null, .null, .null, .null, .null, .int 0, .null, .null, .null, .null, .int 0, .null, .int 0])), (ac, .inl (cJ, 64, .inl (ks_up ks_k 61)))] := hD
  refine lv_dup hx hb dX2_init_369 rfl ?_
  refine lv_bipush (v := 61) hx hb dX2_init_370 (by decide) ?_
  refine kz_top (y := nI 61) (by decide) ?_
  refine lv_ldc (v := (-1120210379)) hx hb hown (hts (.constant RX2 68 (-1120210379)) (by decide +kernel)) dX2_init_372 ?_
  refine kz_astK (j := 61) (T := ks_k) hx hb hK hP hD hS 1 0 rfl rfl (by decide) (by decide) (by decide +kernel) dX2_init_374 (fun H locs hP hD hS => ?_)
  have hP : va_P (dC, dI) vwCl [(h, .inr (2, [.null, .null, .null, .null, .null, .null, .int 0, .null, .null, .null, .null, .int 0, .null, .int 0])), (ac, .inl (cJ, 64, .inl (ks_up ks_k 62)))] H := hP
  have hD : va_D A [(h, .inr (2, [.null, .null, .null, .null, .null, .null, .int 0, .null, .null, .null, .null, .int 0, .null, .int 0])), (ac, .inl (cJ, 64, .inl (ks_up ks_k 62)))] := hD
  refine lv_dup hx hb dX2_init_375 rfl ?_
  refine lv_bipush (v := 62) hx hb dX2_init_376 (by decide) ?_
  refine kz_top (y := nI 62) (by decide) ?_
  refine lv_ldc (v := (718787259)) hx hb hown (hts (.constant RX2 69 (718787259)) (by decide +kernel)) dX2_init_378 ?_
  refine kz_astK (j := 62) (T := ks_k) hx hb hK hP hD hS 1 0 rfl rfl (by decide) (by decide) (by decide +kernel) dX2_init_380 (fun H locs hP hD hS => ?_)
  have hP : va_P (dC, dI) vwCl [(h, .inr (2, [.null, .null, .null, .null, .null, .null, .int 0, .null, .null, .null, .null, .int 0, .null, .int 0])), (ac, .inl (cJ, 64, .inl (ks_up ks_k 63)))] H := hP
  have hD : va_D A [(h, .inr (2, [.null, .null, .null, .null, .null, .null, .int 0, .null, .null, .null, .null, .int 0, .null, .int 0])), (ac, .inl (cJ, 64, .inl (ks_up ks_k 63)))] := hD
  refine lv_dup hx hb dX2_init_381 rfl ?_
  refine lv_bipush (v := 63) hx hb dX2_init_382 (by decide) ?_
  refine kz_top (y := nI 63) (by decide) ?_
  refine lv_ldc (v := (-343485551)) hx hb hown (hts (.constant RX2 70 (-343485551)) (by decide +kernel)) dX2_init_384 ?_
  refine kz_astK (j := 63) (T := ks_k) hx hb hK hP hD hS 1 0 rfl rfl (by decide) (by decide) (by decide +kernel) dX2_init_386 (fun H locs hP hD hS => ?_)
  have hP : va_P (dC, dI) vwCl [(h, .inr (2, [.null, .null, .null, .null, .null, .null, .int 0, .null, .null, .null, .null, .int 0, .null, .int 0])), (ac, .inl (cJ, 64, .inl (ks_up ks_k 64)))] H := hP
  have hD : va_D A [(h, .inr (2, [.null, .null, .null, .null, .null, .null, .int 0, .null, .null, .null, .null, .int 0, .null, .int 0])), (ac, .inl (cJ, 64, .inl (ks_up ks_k 64)))] := hD
  rw [ks_up_n (T := ks_k) (k := 64) (fun j hj => ks_getD0 (l := ks_K) rfl hj)] at hP hD
  refine va_putF (D := (dC, dI)) (ci := 2) (v := .ref ac) (ty := .array .int) (C := RX2) (T := TX2) (N := 14) hx hb hts (by decide +kernel) tyX2 tyX2_ok nmX2 hown hK hP hD hS 0 rfl rfl 0 (by decide) (hts (.fieldLink RX2 71 "KeySumsModel" "constant" "[I") (by decide +kernel)) (fun _ h9 => h9) rfl hin rfl (by decide +kernel) rfl rfl (Nat.le_of_ble_eq_true rfl) dX2_init_387 (fun H locs hP hD hS => ?_)
  have hP : va_P (dC, dI) vwCl [(h, .inr (2, [.ref ac, .null, .null, .null, .null, .null, .int 0, .null, .null, .null, .null, .int 0, .null, .int 0])), (ac, .inl (cJ, 64, .inl ks_k))] H := hP
  have hD : va_D A [(h, .inr (2, [.ref ac, .null, .null, .null, .null, .null, .int 0, .null, .null, .null, .null, .int 0, .null, .int 0])), (ac, .inl (cJ, 64, .inl ks_k))] := hD
  refine lv_aload_n hx hb dX2_init_390 rfl (lv_at hl 0 rfl) ?_
  refine lv_bipush (v := 16) hx hb dX2_init_391 (by decide) ?_
  refine va_newa (atype := .int) (ty := .int) (N' := 16) (a0 := (16, .inl (ks_up ks_tt 0))) hx hb (hts (.arrayClass .int) (by decide +kernel)) rfl hK hP hD hS hA (fun cA => by rw [ks_up_0]; rfl) (by decide +kernel) (by decide +kernel) (by decide +kernel) (Nat.le_of_ble_eq_true rfl) (Nat.le_of_ble_eq_true rfl) dX2_init_393 (fun au c2 H hK hP hD hS => ?_)
  have r1 : s.vm.findClass ("[" ++ FieldType.int.toString) = some cJ := (hK.2 0 _ rfl).2
  have r2 : s.vm.findClass ("[" ++ FieldType.int.toString) = some c2 := (hK.2 1 _ rfl).2
  have hc9 : cJ = c2 := Option.some.inj (r1.symm.trans r2)
  subst hc9
  have hK := hK.sub (tys' := [(cJ, .int)]) [0] rfl
  have hP : va_P (dC, dI) vwCl [(h, .inr (2, [.ref ac, .null, .null, .null, .null, .null, .int 0, .null, .null, .null, .null, .int 0, .null, .int 0])), (ac, .inl (cJ, 64, .inl ks_k)), (au, .inl (cJ, 16, .inl (ks_up ks_tt 0)))] H := hP
  have hD : va_D A [(h, .inr (2, [.ref ac, .null, .null, .null, .null, .null, .int 0, .null, .null, .null, .null, .int 0, .null, .int 0])), (ac, .inl (cJ, 64, .inl ks_k)), (au, .inl (cJ, 16, .inl (ks_up ks_tt 0)))] := hD
  have hK : va_K (dC, dI) vwCl [(cJ, .int)] s := hK
  refine W.widen (k := 2) (n := 80) (Nat.le_of_ble_eq_true rfl) (Nat.le_of_ble_eq_true rfl) ?_
  refine lv_dup hx hb dX2_init_395 rfl ?_
  refine lv_iconst (v := 0) hx hb dX2_init_396 (by decide) ?_
  refine kz_top (y := nI 0) (by decide) ?_
  refine lv_bipush (v := 7) hx hb dX2_init_397 (by decide) ?_
  refine kz_astK (j := 0) (T := ks_tt) hx hb hK hP hD hS 2 0 rfl rfl (by decide) (by decide) (by decide +kernel) dX2_init_399 (fun H locs hP hD hS => ?_)
  have hP : va_P (dC, dI) vwCl [(h, .inr (2, [.ref ac, .null, .null, .null, .null, .null, .int 0, .null, .null, .null, .null, .int 0, .null, .int 0])), (ac, .inl (cJ, 64, .inl ks_k)), (au, .inl (cJ, 16, .inl (ks_up ks_tt 1)))] H := hP
  have hD : va_D A [(h, .inr (2, [.ref ac, .null, .null, .null, .null, .null, .int 0, .null, .null, .null, .null, .int 0, .null, .int 0])), (ac, .inl (cJ, 64, .inl ks_k)), (au, .inl (cJ, 16, .inl (ks_up ks_tt 1)))] := hD
  refine lv_dup hx hb dX2_init_400 rfl ?_
  refine lv_iconst (v := 1) hx hb dX2_init_401 (by decide) ?_
  refine kz_top (y := nI 1) (by decide) ?_
  refine lv_bipush (v := 12) hx hb dX2_init_402 (by decide) ?_
  refine kz_astK (j := 1) (T := ks_tt) hx hb hK hP hD hS 2 0 rfl rfl (by decide) (by decide) (by decide +kernel) dX2_init_404 (fun H locs hP hD hS => ?_)
  have hP : va_P (dC, dI) vwCl [(h, .inr (2, [.ref ac, .null, .null, .null, .null, .null, .int 0, .null, .null, .null, .null, .int 0, .null, .int 0])), (ac, .inl (cJ, 64, .inl ks_k)), (au, .inl (cJ, 16, .inl (ks_up ks_tt 2)))] H := hP
  have hD : va_D A [(h, .inr (2, [.ref ac, .null, .null, .null, .null, .null, .int 0, .null, .null, .null, .null, .int 0, .null, .int 0])), (ac, .inl (cJ, 64, .inl ks_k)), (au, .inl (cJ, 16, .inl (ks_up ks_tt 2)))] := hD
  refine lv_dup hx hb dX2_init_405 rfl ?_
  refine lv_iconst (v := 2) hx hb dX2_init_406 (by decide) ?_
  refine kz_top (y := nI 2) (by decide) ?_
  refine lv_bipush (v := 17) hx hb dX2_init_407 (by decide) ?_
  refine kz_astK (j := 2) (T := ks_tt) hx hb hK hP hD hS 2 0 rfl rfl (by decide) (by decide) (by decide +kernel) dX2_init_409 (fun H locs hP hD hS => ?_)
  have hP : va_P (dC, dI) vwCl [(h, .inr (2, [.ref ac, .null, .null, .null, .null, .null, .int 0, .null, .null, .null, .null, .int 0, .null, .int 0])), (ac, .inl (cJ, 64, .inl ks_k)), (au, .inl (cJ, 16, .inl (ks_up ks_tt 3)))] H := hP
  have hD : va_D A [(h, .inr (2, [.ref ac, .null, .null, .null, .null, .null, .int 0, .null, .null, .null, .null, .int 0, .null, .int 0])), (ac, .inl (cJ, 64, .inl ks_k)), (au, .inl (cJ, 16, .inl (ks_up ks_tt 3)))] := hD
  refine lv_dup hx hb dX2_init_410 rfl ?_
  refine lv_iconst (v := 3) hx hb dX2_init_411 (by decide) ?_
  refine kz_top (y := nI 3) (by decide) ?_
  refine lv_bipush (v := 22) hx hb dX2_init_412 (by decide) ?_
  refine kz_astK (j := 3) (T := ks_tt) hx hb hK hP hD hS 2 0 rfl rfl (by decide) (by decide) (by decide +kernel) dX2_init_414 (fun H locs hP hD hS => ?_)
  have hP : va_P (dC, dI) vwCl [(h, .inr (2, [.ref ac, .null, .null, .null, .null, .null, .int 0, .null, .null, .null, .null, .int 0, .null, .int 0])), (ac, .inl (cJ, 64, .inl ks_k)), (au, .inl (cJ, 16, .inl (ks_up ks_tt 4)))] H := hP
  have hD : va_D A [(h, .inr (2, [.ref ac, .null, .null, .null, .null, .null, .int 0, .null, .null, .null, .null, .int 0, .null, .int 0])), (ac, .inl (cJ, 64, .inl ks_k)), (au, .inl (cJ, 16, .inl (ks_up ks_tt 4)))] := hD
  refine lv_dup hx hb dX2_init_415 rfl ?_
  refine lv_iconst (v := 4) hx hb dX2_init_416 (by decide) ?_
  refine kz_top (y := nI 4) (by decide) ?_
  refine lv_iconst (v := 5) hx hb dX2_init_417 (by decide) ?_
  refine kz_astK (j := 4) (T := ks_tt) hx hb hK hP hD hS 2 0 rfl rfl (by decide) (by decide) (by decide +kernel) dX2_init_418 (fun H locs hP hD hS => ?_)
  have hP : va_P (dC, dI) vwCl [(h, .inr (2, [.ref ac, .null, .null, .null, .null, .null, .int 0, .null, .null, .null, .null, .int 0, .null, .int 0])), (ac, .inl (cJ, 64, .inl ks_k)), (au, .inl (cJ, 16, .inl (ks_up ks_tt 5)))] H := hP
  have hD : va_D A [(h, .inr (2, [.ref ac, .null, .null, .null, .null, .null, .int 0, .null, .null, .null, .null, .int 0, .null, .int 0])), (ac, .inl (cJ, 64, .inl ks_k)), (au, .inl (cJ, 16, .inl (ks_up ks_tt 5)))] := hD
  refine lv_dup hx hb dX2_init_419 rfl ?_
  refine lv_iconst (v := 5) hx hb dX2_init_420 (by decide) ?_
  refine kz_top (y := nI 5) (by decide) ?_
  refine lv_bipush (v := 9) hx hb dX2_init_421 (by decide) ?_
  refine kz_astK (j := 5) (T := ks_tt) hx hb hK hP hD hS 2 0 rfl rfl (by decide) (by decide) (by decide +kernel) dX2_init_423 (fun H locs hP hD hS => ?_)
  have hP : va_P (dC, dI) vwCl [(h, .inr (2, [.ref ac, .null, .null, .null, .null, .null, .int 0, .null, .null, .null, .null, .int 0, .null, .int 0])), (ac, .inl (cJ, 64, .inl ks_k)), (au, .inl (cJ, 16, .inl (ks_up ks_tt 6)))] H := hP
  have hD : va_D A [(h, .inr (2, [.ref ac, .null, .null, .null, .null, .null, .int 0, .null, .null, .null, .null, .int 0, .null, .int 0])), (ac, .inl (cJ, 64, .inl ks_k)), (au, .inl (cJ, 16, .inl (ks_up ks_tt 6)))] := hD
  refine lv_dup hx hb dX2_init_424 rfl ?_
  refine lv_bipush (v := 6) hx hb dX2_init_425 (by decide) ?_
  refine kz_top (y := nI 6) (by decide) ?_
  refine lv_bipush (v := 14) hx hb dX2_init_427 (by decide) ?_
  refine kz_astK (j := 6) (T := ks_tt) hx hb hK hP hD hS 2 0 rfl rfl (by decide) (by decide) (by decide +kernel) dX2_init_429 (fun H locs hP hD hS => ?_)
  have hP : va_P (dC, dI) vwCl [(h, .inr (2, [.ref ac, .null, .null, .null, .null, .null, .int 0, .null, .null, .null, .null, .int 0, .null, .int 0])), (ac, .inl (cJ, 64, .inl ks_k)), (au, .inl (cJ, 16, .inl (ks_up ks_tt 7)))] H := hP
  have hD : va_D A [(h, .inr (2, [.ref ac, .null, .null, .null, .null, .null, .int 0, .null, .null, .null, .null, .int 0, .null, .int 0])), (ac, .inl (cJ, 64, .inl ks_k)), (au, .inl (cJ, 16, .inl (ks_up ks_tt 7)))] := hD
  refine lv_dup hx hb dX2_init_430 rfl ?_
  refine lv_bipush (v := 7) hx hb dX2_init_431 (by decide) ?_
  refine kz_top (y := nI 7) (by decide) ?_
  refine lv_bipush (v := 20) hx hb dX2_init_433 (by decide) ?_
  refine kz_astK (j := 7) (T := ks_tt) hx hb hK hP hD hS 2 0 rfl rfl (by decide) (by decide) (by decide +kernel) dX2_init_435 (fun H locs hP hD hS => ?_)
  have hP : va_P (dC, dI) vwCl [(h, .inr (2, [.ref ac, .null, .null, .null, .null, .null, .int 0, .null, .null, .null, .null, .int 0, .null, .int 0])), (ac, .inl (cJ, 64, .inl ks_k)), (au, .inl (cJ, 16, .inl (ks_up ks_tt 8)))] H := hP
  have hD : va_D A [(h, .inr (2, [.ref ac, .null, .null, .null, .null, .null, .int 0, .null, .null, .null, .null, .int 0, .null, .int 0])), (ac, .inl (cJ, 64, .inl ks_k)), (au, .inl (cJ, 16, .inl (ks_up ks_tt 8)))] := hD
  refine lv_dup hx hb dX2_init_436 rfl ?_
  refine lv_bipush (v := 8) hx hb dX2_init_437 (by decide) ?_
  refine kz_top (y := nI 8) (by decide) ?_
  refine lv_iconst (v := 4) hx hb dX2_init_439 (by decide) ?_
  refine kz_astK (j := 8) (T := ks_tt) hx hb hK hP hD hS 2 0 rfl rfl (by decide) (by decide) (by decide +kernel) dX2_init_440 (fun H locs hP hD hS => ?_)
  have hP : va_P (dC, dI) vwCl [(h, .inr (2, [.ref ac, .null, .null, .null, .null, .null, .int 0, .null, .null, .null, .null, .int 0, .null, .int 0])), (ac, .inl (cJ, 64, .inl ks_k)), (au, .inl (cJ, 16, .inl (ks_up ks_tt 9)))] H := hP
  have hD : va_D A [(h, .inr (2, [.ref ac, .null, .null, .null, .null, .null, .int 0, .null, .null, .null, .null, .int 0, .null, .int 0])), (ac, .inl (cJ, 64, .inl ks_k)), (au, .inl (cJ, 16, .inl (ks_up ks_tt 9)))] := hD
  refine lv_dup hx hb dX2_init_441 rfl ?_
  refine lv_bipush (v := 9) hx hb dX2_init_442 (by decide) ?_
  refine kz_top (y := nI 9) (by decide) ?_
  refine lv_bipush (v := 11) hx hb dX2_init_444 (by decide) ?_
  refine kz_astK (j := 9) (T := ks_tt) hx hb hK hP hD hS 2 0 rfl rfl (by decide) (by decide) (by decide +kernel) dX2_init_446 (fun H locs hP hD hS => ?_)
  have hP : va_P (dC, dI) vwCl [(h, .inr (2, [.ref ac, .null, .null, .null, .null, .null, .int 0, .null, .null, .null, .null, .int 0, .null, .int 0])), (ac, .inl (cJ, 64, .inl ks_k)), (au, .inl (cJ, 16, .inl (ks_up ks_tt 10)))] H := hP
  have hD : va_D A [(h, .inr (2, [.ref ac, .null, .null, .null, .null, .null, .int 0, .null, .null, .null, .null, .int 0, .null, .int 0])), (ac, .inl (cJ, 64, .inl ks_k)), (au, .inl (cJ, 16, .inl (ks_up ks_tt 10)))] := hD
  refine lv_dup hx hb dX2_init_447 rfl ?_
  refine lv_bipush (v := 10) hx hb dX2_init_448 (by decide) ?_
  refine kz_top (y := nI 10) (by decide) ?_
  refine lv_bipush (v := 16) hx hb dX2_init_450 (by decide) ?_
  refine kz_astK (j := 10) (T := ks_tt) hx hb hK hP hD hS 2 0 rfl rfl (by decide) (by decide) (by decide +kernel) dX2_init_452 (fun H locs hP hD hS => ?_)
  have hP : va_P (dC, dI) vwCl [(h, .inr (2, [.ref ac, .null, .null, .null, .null, .null, .int 0, .null, .null, .null, .null, .int 0, .null, .int 0])), (ac, .inl (cJ, 64, .inl ks_k)), (au, .inl (cJ, 16, .inl (ks_up ks_tt 11)))] H := hP
  have hD : va_D A [(h, .inr (2, [.ref ac, .null, .null, .null, .null, .null, .int 0, .null, .null, .null, .null, .int 0, .null, .int 0])), (ac, .inl (cJ, 64, .inl ks_k)), (au, .inl (cJ, 16, .inl (ks_up ks_tt 11)))] := hD
  refine lv_dup hx hb dX2_init_453 rfl ?_
  refine lv_bipush (v := 11) hx hb dX2_init_454 (by decide) ?_
  refine kz_top (y := nI 11) (by decide) ?_
  refine lv_bipush (v := 23) hx hb dX2_init_456 (by decide) ?_
  refine kz_astK (j := 11) (T := ks_tt) hx hb hK hP hD hS 2 0 rfl rfl (by decide) (by decide) (by decide +kernel) dX2_init_458 (fun H locs hP hD hS => ?_)
  have hP : va_P (dC, dI) vwCl [(h, .inr (2, [.ref ac, .null, .null, .null, .null, .null, .int 0, .null, .null, .null, .null, .int 0, .null, .int 0])), (ac, .inl (cJ, 64, .inl ks_k)), (au, .inl (cJ, 16, .inl (ks_up ks_tt 12)))] H := hP
  have hD : va_D A [(h, .inr (2, [.ref ac, .null, .null, .null, .null, .null, .int 0, .null, .null, .null, .null, .int 0, .null, .int 0])), (ac, .inl (cJ, 64, .inl ks_k)), (au, .inl (cJ, 16, .inl (ks_up ks_tt 12)))] := hD
  refine lv_dup hx hb dX2_init_459 rfl ?_
  refine lv_bipush (v := 12) hx hb dX2_init_460 (by decide) ?_
  refine kz_top (y := nI 12) (by decide) ?_
  refine lv_bipush (v := 6) hx hb dX2_init_462 (by decide) ?_
  refine kz_astK (j := 12) (T := ks_tt) hx hb hK hP hD hS 2 0 rfl rfl (by decide) (by decide) (by decide +kernel) dX2_init_464 (fun H locs hP hD hS => ?_)
  have hP : va_P (dC, dI) vwCl [(h, .inr (2, [.ref ac, .null, .null, .null, .null, .null, .int 0, .null, .null, .null, .null, .int 0, .null, .int 0])), (ac, .inl (cJ, 64, .inl ks_k)), (au, .inl (cJ, 16, .inl (ks_up ks_tt 13)))] H := hP
  have hD : va_D A [(h, .inr (2, [.ref ac, .null, .null, .null, .null, .null, .int 0, .null, .null, .null, .null, .int 0, .null, .int 0])), (ac, .inl (cJ, 64, .inl ks_k)), (au, .inl (cJ, 16, .inl (ks_up ks_tt 13)))] := hD
  refine lv_dup hx hb dX2_init_465 rfl ?_
  refine lv_bipush (v := 13) hx hb dX2_init_466 (by decide) ?_
  refine kz_top (y := nI 13) (by decide) ?_
  refine lv_bipush (v := 10) hx hb dX2_init_468 (by decide) ?_
  refine kz_astK (j := 13) (T := ks_tt) hx hb hK hP hD hS 2 0 rfl rfl (by decide) (by decide) (by decide +kernel) dX2_init_470 (fun H locs hP hD hS => ?_)
  have hP : va_P (dC, dI) vwCl [(h, .inr (2, [.ref ac, .null, .null, .null, .null, .null, .int 0, .null, .null, .null, .null, .int 0, .null, .int 0])), (ac, .inl (cJ, 64, .inl ks_k)), (au, .inl (cJ, 16, .inl (ks_up ks_tt 14)))] H := hP
  have hD : va_D A [(h, .inr (2, [.ref ac, .null, .null, .null, .null, .null, .int 0, .null, .null, .null, .null, .int 0, .null, .int 0])), (ac, .inl (cJ, 64, .inl ks_k)), (au, .inl (cJ, 16, .inl (ks_up ks_tt 14)))] := hD
  refine lv_dup hx hb dX2_init_471 rfl ?_
  refine lv_bipush (v := 14) hx hb dX2_init_472 (by decide) ?_
  refine kz_top (y := nI 14) (by decide) ?_
  refine lv_bipush (v := 15) hx hb dX2_init_474 (by decide) ?_
  refine kz_astK (j := 14) (T := ks_tt) hx hb hK hP hD hS 2 0 rfl rfl (by decide) (by decide) (by decide +kernel) dX2_init_476 (fun H locs hP hD hS => ?_)
  have hP : va_P (dC, dI) vwCl [(h, .inr (2, [.ref ac, .null, .null, .null, .null, .null, .int 0, .null, .null, .null, .null, .int 0, .null, .int 0])), (ac, .inl (cJ, 64, .inl ks_k)), (au, .inl (cJ, 16, .inl (ks_up ks_tt 15)))] H := hP
  have hD : va_D A [(h, .inr (2, [.ref ac, .null, .null, .null, .null, .null, .int 0, .null, .null, .null, .null, .int 0, .null, .int 0])), (ac, .inl (cJ, 64, .inl ks_k)), (au, .inl (cJ, 16, .inl (ks_up ks_tt 15)))] := hD
  refine lv_dup hx hb dX2_init_477 rfl ?_
  refine lv_bipush (v := 15) hx hb dX2_init_478 (by decide) ?_
  refine kz_top (y := nI 15) (by decide) ?_
  refine lv_bipush (v := 21) hx hb dX2_init_480 (by decide) ?_
  refine kz_astK (j := 15) (T := ks_tt) hx hb hK hP hD hS 2 0 rfl rfl (by decide) (by decide) (by decide +kernel) dX2_init_482 (fun H locs hP hD hS => ?_)
  have hP : va_P (dC, dI) vwCl [(h, .inr (2, [.ref ac, .null, .null, .null, .null, .null, .int 0, .null, .null, .null, .null, .int 0, .null, .int 0])), (ac, .inl (cJ, 64, .inl ks_k)), (au, .inl (cJ, 16, .inl (ks_up ks_tt 16)))] H := hP
  have hD : va_D A [(h, .inr (2, [.ref ac, .null, .null, .null, .null, .null, .int 0, .null, .null, .null, .null, .int 0, .null, .int 0])), (ac, .inl (cJ, 64, .inl ks_k)), (au, .inl (cJ, 16, .inl (ks_up ks_tt 16)))] := hD
  rw [ks_up_n (T := ks_tt) (k := 16) (fun j hj => ks_getD0 (l := ks_TT) rfl hj)] at hP hD
  refine va_putF (D := (dC, dI)) (ci := 2) (v := .ref au) (ty := .array .int) (C := RX2) (T := TX2) (N := 14) hx hb hts (by decide +kernel) tyX2 tyX2_ok nmX2 hown hK hP hD hS 0 rfl rfl 1 (by decide) (hts (.fieldLink RX2 77 "KeySumsModel" "turns" "[I") (by decide +kernel)) (fun _ h9 => h9) rfl hin rfl (by decide +kernel) rfl rfl (Nat.le_of_ble_eq_true rfl) dX2_init_483 (fun H locs hP hD hS => ?_)
  have hP : va_P (dC, dI) vwCl [(h, .inr (2, [.ref ac, .ref au, .null, .null, .null, .null, .int 0, .null, .null, .null, .null, .int 0, .null, .int 0])), (ac, .inl (cJ, 64, .inl ks_k)), (au, .inl (cJ, 16, .inl ks_tt))] H := hP
  have hD : va_D A [(h, .inr (2, [.ref ac, .ref au, .null, .null, .null, .null, .int 0, .null, .null, .null, .null, .int 0, .null, .int 0])), (ac, .inl (cJ, 64, .inl ks_k)), (au, .inl (cJ, 16, .inl ks_tt))] := hD
  refine lv_aload_n hx hb dX2_init_486 rfl (lv_at hl 0 rfl) ?_
  refine lv_iconst (v := 4) hx hb dX2_init_487 (by decide) ?_
  refine va_newa (atype := .int) (ty := .int) (N' := 4) (a0 := (4, .inl (ks_up ks_begI 0))) hx hb (hts (.arrayClass .int) (by decide +kernel)) rfl hK hP hD hS hA (fun cA => by rw [ks_up_0]; rfl) (by decide +kernel) (by decide +kernel) (by decide +kernel) (Nat.le_of_ble_eq_true rfl) (Nat.le_of_ble_eq_true rfl) dX2_init_488 (fun ab c2 H hK hP hD hS => ?_)
  have r1 : s.vm.findClass ("[" ++ FieldType.int.toString) = some cJ := (hK.2 0 _ rfl).2
  have r2 : s.vm.findClass ("[" ++ FieldType.int.toString) = some c2 := (hK.2 1 _ rfl).2
  have hc9 : cJ = c2 := Option.some.inj (r1.symm.trans r2)
  subst hc9
  have hK := hK.sub (tys' := [(cJ, .int)]) [0] rfl
  have hP : va_P (dC, dI) vwCl [(h, .inr (2, [.ref ac, .ref au, .null, .null, .null, .null, .int 0, .null, .null, .null, .null, .int 0, .null, .int 0])), (ac, .inl (cJ, 64, .inl ks_k)), (au, .inl (cJ, 16, .inl ks_tt)), (ab, .inl (cJ, 4, .inl (ks_up ks_begI 0)))] H := hP
  have hD : va_D A [(h, .inr (2, [.ref ac, .ref au, .null, .null, .null, .null, .int 0, .null, .null, .null, .null, .int 0, .null, .int 0])), (ac, .inl (cJ, 64, .inl ks_k)), (au, .inl (cJ, 16, .inl ks_tt)), (ab, .inl (cJ, 4, .inl (ks_up ks_begI 0)))] := hD
  have hK : va_K (dC, dI) vwCl [(cJ, .int)] s := hK
  refine W.widen (k := 3) (n := 84) (Nat.le_of_ble_eq_true rfl) (Nat.le_of_ble_eq_true rfl) ?_
  refine lv_dup hx hb dX2_init_490 rfl ?_
  refine lv_iconst (v := 0) hx hb dX2_init_491 (by decide) ?_
  refine kz_top (y := nI 0) (by decide) ?_
  refine lv_ldc (v := (1732584193)) hx hb hown (hts (.constant RX2 80 (1732584193)) (by decide +kernel)) dX2_init_492 ?_
  refine kz_astK (j := 0) (T := ks_begI) hx hb hK hP hD hS 3 0 rfl rfl (by decide) (by decide) (by decide +kernel) dX2_init_494 (fun H locs hP hD hS => ?_)
  have hP : va_P (dC, dI) vwCl [(h, .inr (2, [.ref ac, .ref au, .null, .null, .null, .null, .int 0, .null, .null, .null, .null, .int 0, .null, .int 0])), (ac, .inl (cJ, 64, .inl ks_k)), (au, .inl (cJ, 16, .inl ks_tt)), (ab, .inl (cJ, 4, .inl (ks_up ks_begI 1)))] H := hP
  have hD : va_D A [(h, .inr (2, [.ref ac, .ref au, .null, .null, .null, .null, .int 0, .null, .null, .null, .null, .int 0, .null, .int 0])), (ac, .inl (cJ, 64, .inl ks_k)), (au, .inl (cJ, 16, .inl ks_tt)), (ab, .inl (cJ, 4, .inl (ks_up ks_begI 1)))] := hD
  refine lv_dup hx hb dX2_init_495 rfl ?_
  refine lv_iconst (v := 1) hx hb dX2_init_496 (by decide) ?_
  refine kz_top (y := nI 1) (by decide) ?_
  refine lv_ldc (v := (-271733879)) hx hb hown (hts (.constant RX2 81 (-271733879)) (by decide +kernel)) dX2_init_497 ?_
  refine kz_astK (j := 1) (T := ks_begI) hx hb hK hP hD hS 3 0 rfl rfl (by decide) (by decide) (by decide +kernel) dX2_init_499 (fun H locs hP hD hS => ?_)
  have hP : va_P (dC, dI) vwCl [(h, .inr (2, [.ref ac, .ref au, .null, .null, .null, .null, .int 0, .null, .null, .null, .null, .int 0, .null, .int 0])), (ac, .inl (cJ, 64, .inl ks_k)), (au, .inl (cJ, 16, .inl ks_tt)), (ab, .inl (cJ, 4, .inl (ks_up ks_begI 2)))] H := hP
  have hD : va_D A [(h, .inr (2, [.ref ac, .ref au, .null, .null, .null, .null, .int 0, .null, .null, .null, .null, .int 0, .null, .int 0])), (ac, .inl (cJ, 64, .inl ks_k)), (au, .inl (cJ, 16, .inl ks_tt)), (ab, .inl (cJ, 4, .inl (ks_up ks_begI 2)))] := hD
  refine lv_dup hx hb dX2_init_500 rfl ?_
  refine lv_iconst (v := 2) hx hb dX2_init_501 (by decide) ?_
  refine kz_top (y := nI 2) (by decide) ?_
  refine lv_ldc (v := (-1732584194)) hx hb hown (hts (.constant RX2 82 (-1732584194)) (by decide +kernel)) dX2_init_502 ?_
  refine kz_astK (j := 2) (T := ks_begI) hx hb hK hP hD hS 3 0 rfl rfl (by decide) (by decide) (by decide +kernel) dX2_init_504 (fun H locs hP hD hS => ?_)
  have hP : va_P (dC, dI) vwCl [(h, .inr (2, [.ref ac, .ref au, .null, .null, .null, .null, .int 0, .null, .null, .null, .null, .int 0, .null, .int 0])), (ac, .inl (cJ, 64, .inl ks_k)), (au, .inl (cJ, 16, .inl ks_tt)), (ab, .inl (cJ, 4, .inl (ks_up ks_begI 3)))] H := hP
  have hD : va_D A [(h, .inr (2, [.ref ac, .ref au, .null, .null, .null, .null, .int 0, .null, .null, .null, .null, .int 0, .null, .int 0])), (ac, .inl (cJ, 64, .inl ks_k)), (au, .inl (cJ, 16, .inl ks_tt)), (ab, .inl (cJ, 4, .inl (ks_up ks_begI 3)))] := hD
  refine lv_dup hx hb dX2_init_505 rfl ?_
  refine lv_iconst (v := 3) hx hb dX2_init_506 (by decide) ?_
  refine kz_top (y := nI 3) (by decide) ?_
  refine lv_ldc (v := (271733878)) hx hb hown (hts (.constant RX2 83 (271733878)) (by decide +kernel)) dX2_init_507 ?_
  refine kz_astK (j := 3) (T := ks_begI) hx hb hK hP hD hS 3 0 rfl rfl (by decide) (by decide) (by decide +kernel) dX2_init_509 (fun H locs hP hD hS => ?_)
  have hP : va_P (dC, dI) vwCl [(h, .inr (2, [.ref ac, .ref au, .null, .null, .null, .null, .int 0, .null, .null, .null, .null, .int 0, .null, .int 0])), (ac, .inl (cJ, 64, .inl ks_k)), (au, .inl (cJ, 16, .inl ks_tt)), (ab, .inl (cJ, 4, .inl (ks_up ks_begI 4)))] H := hP
  have hD : va_D A [(h, .inr (2, [.ref ac, .ref au, .null, .null, .null, .null, .int 0, .null, .null, .null, .null, .int 0, .null, .int 0])), (ac, .inl (cJ, 64, .inl ks_k)), (au, .inl (cJ, 16, .inl ks_tt)), (ab, .inl (cJ, 4, .inl (ks_up ks_begI 4)))] := hD
  rw [ks_up_n (T := ks_begI) (k := 4) (fun j hj => ks_getD0 rfl hj)] at hP hD
  refine va_putF (D := (dC, dI)) (ci := 2) (v := .ref ab) (ty := .array .int) (C := RX2) (T := TX2) (N := 14) hx hb hts (by decide +kernel) tyX2 tyX2_ok nmX2 hown hK hP hD hS 0 rfl rfl 2 (by decide) (hts (.fieldLink RX2 84 "KeySumsModel" "begin" "[I") (by decide +kernel)) (fun _ h9 => h9) rfl hin rfl (by decide +kernel) rfl rfl (Nat.le_of_ble_eq_true rfl) dX2_init_510 (fun H locs hP hD hS => ?_)
  have hP : va_P (dC, dI) vwCl [(h, .inr (2, [.ref ac, .ref au, .ref ab, .null, .null, .null, .int 0, .null, .null, .null, .null, .int 0, .null, .int 0])), (ac, .inl (cJ, 64, .inl ks_k)), (au, .inl (cJ, 16, .inl ks_tt)), (ab, .inl (cJ, 4, .inl ks_begI))] H := hP
  have hD : va_D A [(h, .inr (2, [.ref ac, .ref au, .ref ab, .null, .null, .null, .int 0, .null, .null, .null, .null, .int 0, .null, .int 0])), (ac, .inl (cJ, 64, .inl ks_k)), (au, .inl (cJ, 16, .inl ks_tt)), (ab, .inl (cJ, 4, .inl ks_begI))] := hD
  refine lv_aload_n hx hb dX2_init_513 rfl (lv_at hl 0 rfl) ?_
  refine lv_iconst (v := 4) hx hb dX2_init_514 (by decide) ?_
  refine va_newa (atype := .int) (ty := .int) (N' := 4) (a0 := (4, .inl (ks_up ks_tmI 0))) hx hb (hts (.arrayClass .int) (by decide +kernel)) rfl hK hP hD hS hA (fun cA => by rw [ks_up_0]; rfl) (by decide +kernel) (by decide +kernel) (by decide +kernel) (Nat.le_of_ble_eq_true rfl) (Nat.le_of_ble_eq_true rfl) dX2_init_515 (fun ae c2 H hK hP hD hS => ?_)
  have r1 : s.vm.findClass ("[" ++ FieldType.int.toString) = some cJ := (hK.2 0 _ rfl).2
  have r2 : s.vm.findClass ("[" ++ FieldType.int.toString) = some c2 := (hK.2 1 _ rfl).2
  have hc9 : cJ = c2 := Option.some.inj (r1.symm.trans r2)
  subst hc9
  have hK := hK.sub (tys' := [(cJ, .int)]) [0] rfl
  have hP : va_P (dC, dI) vwCl [(h, .inr (2, [.ref ac, .ref au, .ref ab, .null, .null, .null, .int 0, .null, .null, .null, .null, .int 0, .null, .int 0])), (ac, .inl (cJ, 64, .inl ks_k)), (au, .inl (cJ, 16, .inl ks_tt)), (ab, .inl (cJ, 4, .inl ks_begI)), (ae, .inl (cJ, 4, .inl (ks_up ks_tmI 0)))] H := hP
  have hD : va_D A [(h, .inr (2, [.ref ac, .ref au, .ref ab, .null, .null, .null, .int 0, .null, .null, .null, .null, .int 0, .null, .int 0])), (ac, .inl (cJ, 64, .inl ks_k)), (au, .inl (cJ, 16, .inl ks_tt)), (ab, .inl (cJ, 4, .inl ks_begI)), (ae, .inl (cJ, 4, .inl (ks_up ks_tmI 0)))] := hD
  have hK : va_K (dC, dI) vwCl [(cJ, .int)] s := hK
  refine W.widen (k := 4) (n := 88) (Nat.le_of_ble_eq_true rfl) (Nat.le_of_ble_eq_true rfl) ?_
  refine lv_dup hx hb dX2_init_517 rfl ?_
  refine lv_iconst (v := 0) hx hb dX2_init_518 (by decide) ?_
  refine kz_top (y := nI 0) (by decide) ?_
  refine lv_iconst (v := 1) hx hb dX2_init_519 (by decide) ?_
  refine kz_astK (j := 0) (T := ks_tmI) hx hb hK hP hD hS 4 0 rfl rfl (by decide) (by decide) (by decide +kernel) dX2_init_520 (fun H locs hP hD hS => ?_)
  have hP : va_P (dC, dI) vwCl [(h, .inr (2, [.ref ac, .ref au, .ref ab, .null, .null, .null, .int 0, .null, .null, .null, .null, .int 0, .null, .int 0])), (ac, .inl (cJ, 64, .inl ks_k)), (au, .inl (cJ, 16, .inl ks_tt)), (ab, .inl (cJ, 4, .inl ks_begI)), (ae, .inl (cJ, 4, .inl (ks_up ks_tmI 1)))] H := hP
  have hD : va_D A [(h, .inr (2, [.ref ac, .ref au, .ref ab, .null, .null, .null, .int 0, .null, .null, .null, .null, .int 0, .null, .int 0])), (ac, .inl (cJ, 64, .inl ks_k)), (au, .inl (cJ, 16, .inl ks_tt)), (ab, .inl (cJ, 4, .inl ks_begI)), (ae, .inl (cJ, 4, .inl (ks_up ks_tmI 1)))] := hD
  refine lv_dup hx hb dX2_init_521 rfl ?_
  refine lv_iconst (v := 1) hx hb dX2_init_522 (by decide) ?_
  refine kz_top (y := nI 1) (by decide) ?_
  refine lv_iconst (v := 5) hx hb dX2_init_523 (by decide) ?_
  refine kz_astK (j := 1) (T := ks_tmI) hx hb hK hP hD hS 4 0 rfl rfl (by decide) (by decide) (by decide +kernel) dX2_init_524 (fun H locs hP hD hS => ?_)
  have hP : va_P (dC, dI) vwCl [(h, .inr (2, [.ref ac, .ref au, .ref ab, .null, .null, .null, .int 0, .null, .null, .null, .null, .int 0, .null, .int 0])), (ac, .inl (cJ, 64, .inl ks_k)), (au, .inl (cJ, 16, .inl ks_tt)), (ab, .inl (cJ, 4, .inl ks_begI)), (ae, .inl (cJ, 4, .inl (ks_up ks_tmI 2)))] H := hP
  have hD : va_D A [(h, .inr (2, [.ref ac, .ref au, .ref ab, .null, .null, .null, .int 0, .null, .null, .null, .null, .int 0, .null, .int 0])), (ac, .inl (cJ, 64, .inl ks_k)), (au, .inl (cJ, 16, .inl ks_tt)), (ab, .inl (cJ, 4, .inl ks_begI)), (ae, .inl (cJ, 4, .inl (ks_up ks_tmI 2)))] := hD
  refine lv_dup hx hb dX2_init_525 rfl ?_
  refine lv_iconst (v := 2) hx hb dX2_init_526 (by decide) ?_
  refine kz_top (y := nI 2) (by decide) ?_
  refine lv_iconst (v := 3) hx hb dX2_init_527 (by decide) ?_
  refine kz_astK (j := 2) (T := ks_tmI) hx hb hK hP hD hS 4 0 rfl rfl (by decide) (by decide) (by decide +kernel) dX2_init_528 (fun H locs hP hD hS => ?_)
  have hP : va_P (dC, dI) vwCl [(h, .inr (2, [.ref ac, .ref au, .ref ab, .null, .null, .null, .int 0, .null, .null, .null, .null, .int 0, .null, .int 0])), (ac, .inl (cJ, 64, .inl ks_k)), (au, .inl (cJ, 16, .inl ks_tt)), (ab, .inl (cJ, 4, .inl ks_begI)), (ae, .inl (cJ, 4, .inl (ks_up ks_tmI 3)))] H := hP
  have hD : va_D A [(h, .inr (2, [.ref ac, .ref au, .ref ab, .null, .null, .null, .int 0, .null, .null, .null, .null, .int 0, .null, .int 0])), (ac, .inl (cJ, 64, .inl ks_k)), (au, .inl (cJ, 16, .inl ks_tt)), (ab, .inl (cJ, 4, .inl ks_begI)), (ae, .inl (cJ, 4, .inl (ks_up ks_tmI 3)))] := hD
  refine lv_dup hx hb dX2_init_529 rfl ?_
  refine lv_iconst (v := 3) hx hb dX2_init_530 (by decide) ?_
  refine kz_top (y := nI 3) (by decide) ?_
  refine lv_bipush (v := 7) hx hb dX2_init_531 (by decide) ?_
  refine kz_astK (j := 3) (T := ks_tmI) hx hb hK hP hD hS 4 0 rfl rfl (by decide) (by decide) (by decide +kernel) dX2_init_533 (fun H locs hP hD hS => ?_)
  have hP : va_P (dC, dI) vwCl [(h, .inr (2, [.ref ac, .ref au, .ref ab, .null, .null, .null, .int 0, .null, .null, .null, .null, .int 0, .null, .int 0])), (ac, .inl (cJ, 64, .inl ks_k)), (au, .inl (cJ, 16, .inl ks_tt)), (ab, .inl (cJ, 4, .inl ks_begI)), (ae, .inl (cJ, 4, .inl (ks_up ks_tmI 4)))] H := hP
  have hD : va_D A [(h, .inr (2, [.ref ac, .ref au, .ref ab, .null, .null, .null, .int 0, .null, .null, .null, .null, .int 0, .null, .int 0])), (ac, .inl (cJ, 64, .inl ks_k)), (au, .inl (cJ, 16, .inl ks_tt)), (ab, .inl (cJ, 4, .inl ks_begI)), (ae, .inl (cJ, 4, .inl (ks_up ks_tmI 4)))] := hD
  rw [ks_up_n (T := ks_tmI) (k := 4) (fun j hj => ks_nat0 rfl hj)] at hP hD
  refine va_putF (D := (dC, dI)) (ci := 2) (v := .ref ae) (ty := .array .int) (C := RX2) (T := TX2) (N := 14) hx hb hts (by decide +kernel) tyX2 tyX2_ok nmX2 hown hK hP hD hS 0 rfl rfl 3 (by decide) (hts (.fieldLink RX2 87 "KeySumsModel" "times" "[I") (by decide +kernel)) (fun _ h9 => h9) rfl hin rfl (by decide +kernel) rfl rfl (Nat.le_of_ble_eq_true rfl) dX2_init_534 (fun H locs hP hD hS => ?_)
  have hP : va_P (dC, dI) vwCl [(h, .inr (2, [.ref ac, .ref au, .ref ab, .ref ae, .null, .null, .int 0, .null, .null, .null, .null, .int 0, .null, .int 0])), (ac, .inl (cJ, 64, .inl ks_k)), (au, .inl (cJ, 16, .inl ks_tt)), (ab, .inl (cJ, 4, .inl ks_begI)), (ae, .inl (cJ, 4, .inl ks_tmI))] H := hP
  have hD : va_D A [(h, .inr (2, [.ref ac, .ref au, .ref ab, .ref ae, .null, .null, .int 0, .null, .null, .null, .null, .int 0, .null, .int 0])), (ac, .inl (cJ, 64, .inl ks_k)), (au, .inl (cJ, 16, .inl ks_tt)), (ab, .inl (cJ, 4, .inl ks_begI)), (ae, .inl (cJ, 4, .inl ks_tmI))] := hD
  refine lv_aload_n hx hb dX2_init_537 rfl (lv_at hl 0 rfl) ?_
  refine lv_iconst (v := 4) hx hb dX2_init_538 (by decide) ?_
  refine va_newa (atype := .int) (ty := .int) (N' := 4) (a0 := (4, .inl (ks_up ks_moI 0))) hx hb (hts (.arrayClass .int) (by decide +kernel)) rfl hK hP hD hS hA (fun cA => by rw [ks_up_0]; rfl) (by decide +kernel) (by decide +kernel) (by decide +kernel) (Nat.le_of_ble_eq_true rfl) (Nat.le_of_ble_eq_true rfl) dX2_init_539 (fun am c2 H hK hP hD hS => ?_)
  have r1 : s.vm.findClass ("[" ++ FieldType.int.toString) = some cJ := (hK.2 0 _ rfl).2
  have r2 : s.vm.findClass ("[" ++ FieldType.int.toString) = some c2 := (hK.2 1 _ rfl).2
  have hc9 : cJ = c2 := Option.some.inj (r1.symm.trans r2)
  subst hc9
  have hK := hK.sub (tys' := [(cJ, .int)]) [0] rfl
  have hP : va_P (dC, dI) vwCl [(h, .inr (2, [.ref ac, .ref au, .ref ab, .ref ae, .null, .null, .int 0, .null, .null, .null, .null, .int 0, .null, .int 0])), (ac, .inl (cJ, 64, .inl ks_k)), (au, .inl (cJ, 16, .inl ks_tt)), (ab, .inl (cJ, 4, .inl ks_begI)), (ae, .inl (cJ, 4, .inl ks_tmI)), (am, .inl (cJ, 4, .inl (ks_up ks_moI 0)))] H := hP
  have hD : va_D A [(h, .inr (2, [.ref ac, .ref au, .ref ab, .ref ae, .null, .null, .int 0, .null, .null, .null, .null, .int 0, .null, .int 0])), (ac, .inl (cJ, 64, .inl ks_k)), (au, .inl (cJ, 16, .inl ks_tt)), (ab, .inl (cJ, 4, .inl ks_begI)), (ae, .inl (cJ, 4, .inl ks_tmI)), (am, .inl (cJ, 4, .inl (ks_up ks_moI 0)))] := hD
  have hK : va_K (dC, dI) vwCl [(cJ, .int)] s := hK
  refine W.widen (k := 5) (n := 92) (Nat.le_of_ble_eq_true rfl) (Nat.le_of_ble_eq_true rfl) ?_
  refine lv_dup hx hb dX2_init_541 rfl ?_
  refine lv_iconst (v := 0) hx hb dX2_init_542 (by decide) ?_
  refine kz_top (y := nI 0) (by decide) ?_
  refine lv_iconst (v := 0) hx hb dX2_init_543 (by decide) ?_
  refine kz_astK (j := 0) (T := ks_moI) hx hb hK hP hD hS 5 0 rfl rfl (by decide) (by decide) (by decide +kernel) dX2_init_544 (fun H locs hP hD hS => ?_)
  have hP : va_P (dC, dI) vwCl [(h, .inr (2, [.ref ac, .ref au, .ref ab, .ref ae, .null, .null, .int 0, .null, .null, .null, .null, .int 0, .null, .int 0])), (ac, .inl (cJ, 64, .inl ks_k)), (au, .inl (cJ, 16, .inl ks_tt)), (ab, .inl (cJ, 4, .inl ks_begI)), (ae, .inl (cJ, 4, .inl ks_tmI)), (am, .inl (cJ, 4, .inl (ks_up ks_moI 1)))] H := hP
  have hD : va_D A [(h, .inr (2, [.ref ac, .ref au, .ref ab, .ref ae, .null, .null, .int 0, .null, .null, .null, .null, .int 0, .null, .int 0])), (ac, .inl (cJ, 64, .inl ks_k)), (au, .inl (cJ, 16, .inl ks_tt)), (ab, .inl (cJ, 4, .inl ks_begI)), (ae, .inl (cJ, 4, .inl ks_tmI)), (am, .inl (cJ, 4, .inl (ks_up ks_moI 1)))] := hD
  refine lv_dup hx hb dX2_init_545 rfl ?_
  refine lv_iconst (v := 1) hx hb dX2_init_546 (by decide) ?_
  refine kz_top (y := nI 1) (by decide) ?_
  refine lv_iconst (v := 1) hx hb dX2_init_547 (by decide) ?_
  refine kz_astK (j := 1) (T := ks_moI) hx hb hK hP hD hS 5 0 rfl rfl (by decide) (by decide) (by decide +kernel) dX2_init_548 (fun H locs hP hD hS => ?_)
  have hP : va_P (dC, dI) vwCl [(h, .inr (2, [.ref ac, .ref au, .ref ab, .ref ae, .null, .null, .int 0, .null, .null, .null, .null, .int 0, .null, .int 0])), (ac, .inl (cJ, 64, .inl ks_k)), (au, .inl (cJ, 16, .inl ks_tt)), (ab, .inl (cJ, 4, .inl ks_begI)), (ae, .inl (cJ, 4, .inl ks_tmI)), (am, .inl (cJ, 4, .inl (ks_up ks_moI 2)))] H := hP
  have hD : va_D A [(h, .inr (2, [.ref ac, .ref au, .ref ab, .ref ae, .null, .null, .int 0, .null, .null, .null, .null, .int 0, .null, .int 0])), (ac, .inl (cJ, 64, .inl ks_k)), (au, .inl (cJ, 16, .inl ks_tt)), (ab, .inl (cJ, 4, .inl ks_begI)), (ae, .inl (cJ, 4, .inl ks_tmI)), (am, .inl (cJ, 4, .inl (ks_up ks_moI 2)))] := hD
  refine lv_dup hx hb dX2_init_549 rfl ?_
  refine lv_iconst (v := 2) hx hb dX2_init_550 (by decide) ?_
  refine kz_top (y := nI 2) (by decide) ?_
  refine lv_iconst (v := 5) hx hb dX2_init_551 (by decide) ?_
  refine kz_astK (j := 2) (T := ks_moI) hx hb hK hP hD hS 5 0 rfl rfl (by decide) (by decide) (by decide +kernel) dX2_init_552 (fun H locs hP hD hS => ?_)
  have hP : va_P (dC, dI) vwCl [(h, .inr (2, [.ref ac, .ref au, .ref ab, .ref ae, .null, .null, .int 0, .null, .null, .null, .null, .int 0, .null, .int 0])), (ac, .inl (cJ, 64, .inl ks_k)), (au, .inl (cJ, 16, .inl ks_tt)), (ab, .inl (cJ, 4, .inl ks_begI)), (ae, .inl (cJ, 4, .inl ks_tmI)), (am, .inl (cJ, 4, .inl (ks_up ks_moI 3)))] H := hP
  have hD : va_D A [(h, .inr (2, [.ref ac, .ref au, .ref ab, .ref ae, .null, .null, .int 0, .null, .null, .null, .null, .int 0, .null, .int 0])), (ac, .inl (cJ, 64, .inl ks_k)), (au, .inl (cJ, 16, .inl ks_tt)), (ab, .inl (cJ, 4, .inl ks_begI)), (ae, .inl (cJ, 4, .inl ks_tmI)), (am, .inl (cJ, 4, .inl (ks_up ks_moI 3)))] := hD
  refine lv_dup hx hb dX2_init_553 rfl ?_
  refine lv_iconst (v := 3) hx hb dX2_init_554 (by decide) ?_
  refine kz_top (y := nI 3) (by decide) ?_
  refine lv_iconst (v := 0) hx hb dX2_init_555 (by decide) ?_
  refine kz_astK (j := 3) (T := ks_moI) hx hb hK hP hD hS 5 0 rfl rfl (by decide) (by decide) (by decide +kernel) dX2_init_556 (fun H locs hP hD hS => ?_)
  have hP : va_P (dC, dI) vwCl [(h, .inr (2, [.ref ac, .ref au, .ref ab, .ref ae, .null, .null, .int 0, .null, .null, .null, .null, .int 0, .null, .int 0])), (ac, .inl (cJ, 64, .inl ks_k)), (au, .inl (cJ, 16, .inl ks_tt)), (ab, .inl (cJ, 4, .inl ks_begI)), (ae, .inl (cJ, 4, .inl ks_tmI)), (am, .inl (cJ, 4, .inl (ks_up ks_moI 4)))] H := hP
  have hD : va_D A [(h, .inr (2, [.ref ac, .ref au, .ref ab, .ref ae, .null, .null, .int 0, .null, .null, .null, .null, .int 0, .null, .int 0])), (ac, .inl (cJ, 64, .inl ks_k)), (au, .inl (cJ, 16, .inl ks_tt)), (ab, .inl (cJ, 4, .inl ks_begI)), (ae, .inl (cJ, 4, .inl ks_tmI)), (am, .inl (cJ, 4, .inl (ks_up ks_moI 4)))] := hD
  rw [ks_up_n (T := ks_moI) (k := 4) (fun j hj => ks_nat0 rfl hj)] at hP hD
  refine va_putF (D := (dC, dI)) (ci := 2) (v := .ref am) (ty := .array .int) (C := RX2) (T := TX2) (N := 14) hx hb hts (by decide +kernel) tyX2 tyX2_ok nmX2 hown hK hP hD hS 0 rfl rfl 4 (by decide) (hts (.fieldLink RX2 90 "KeySumsModel" "more" "[I") (by decide +kernel)) (fun _ h9 => h9) rfl hin rfl (by decide +kernel) rfl rfl (Nat.le_of_ble_eq_true rfl) dX2_init_557 (fun H locs hP hD hS => ?_)
  have hP : va_P (dC, dI) vwCl [(h, .inr (2, [.ref ac, .ref au, .ref ab, .ref ae, .ref am, .null, .int 0, .null, .null, .null, .null, .int 0, .null, .int 0])), (ac, .inl (cJ, 64, .inl ks_k)), (au, .inl (cJ, 16, .inl ks_tt)), (ab, .inl (cJ, 4, .inl ks_begI)), (ae, .inl (cJ, 4, .inl ks_tmI)), (am, .inl (cJ, 4, .inl ks_moI))] H := hP
  have hD : va_D A [(h, .inr (2, [.ref ac, .ref au, .ref ab, .ref ae, .ref am, .null, .int 0, .null, .null, .null, .null, .int 0, .null, .int 0])), (ac, .inl (cJ, 64, .inl ks_k)), (au, .inl (cJ, 16, .inl ks_tt)), (ab, .inl (cJ, 4, .inl ks_begI)), (ae, .inl (cJ, 4, .inl ks_tmI)), (am, .inl (cJ, 4, .inl ks_moI))] := hD
  refine lv_aload_n hx hb dX2_init_560 rfl (lv_at hl 0 rfl) ?_
  refine lv_sipush (v := 2000) hx hb dX2_init_561 (by decide) ?_
  refine va_newa (atype := .int) (ty := .int) (N' := 2000) (a0 := (2000, .inl (fun _ => 0))) hx hb (hts (.arrayClass .int) (by decide +kernel)) rfl hK hP hD hS hA (fun cA => rfl) (by decide +kernel) (by decide +kernel) (by decide +kernel) (Nat.le_of_ble_eq_true rfl) (Nat.le_of_ble_eq_true rfl) dX2_init_564 (fun ap c2 H hK hP hD hS => ?_)
  have r1 : s.vm.findClass ("[" ++ FieldType.int.toString) = some cJ := (hK.2 0 _ rfl).2
  have r2 : s.vm.findClass ("[" ++ FieldType.int.toString) = some c2 := (hK.2 1 _ rfl).2
  have hc9 : cJ = c2 := Option.some.inj (r1.symm.trans r2)
  subst hc9
  have hK := hK.sub (tys' := [(cJ, .int)]) [0] rfl
  have hP : va_P (dC, dI) vwCl [(h, .inr (2, [.ref ac, .ref au, .ref ab, .ref ae, .ref am, .null, .int 0, .null, .null, .null, .null, .int 0, .null, .int 0])), (ac, .inl (cJ, 64, .inl ks_k)), (au, .inl (cJ, 16, .inl ks_tt)), (ab, .inl (cJ, 4, .inl ks_begI)), (ae, .inl (cJ, 4, .inl ks_tmI)), (am, .inl (cJ, 4, .inl ks_moI)), (ap, .inl (cJ, 2000, .inl (fun _ => 0)))] H := hP
  have hD : va_D A [(h, .inr (2, [.ref ac, .ref au, .ref ab, .ref ae, .ref am, .null, .int 0, .null, .null, .null, .null, .int 0, .null, .int 0])), (ac, .inl (cJ, 64, .inl ks_k)), (au, .inl (cJ, 16, .inl ks_tt)), (ab, .inl (cJ, 4, .inl ks_begI)), (ae, .inl (cJ, 4, .inl ks_tmI)), (am, .inl (cJ, 4, .inl ks_moI)), (ap, .inl (cJ, 2000, .inl (fun _ => 0)))] := hD
  have hK : va_K (dC, dI) vwCl [(cJ, .int)] s := hK
  refine W.widen (k := 6) (n := 2092) (Nat.le_of_ble_eq_true rfl) (Nat.le_of_ble_eq_true rfl) ?_
  refine va_putF (D := (dC, dI)) (ci := 2) (v := .ref ap) (ty := .array .int) (C := RX2) (T := TX2) (N := 14) hx hb hts (by decide +kernel) tyX2 tyX2_ok nmX2 hown hK hP hD hS 0 rfl rfl 5 (by decide) (hts (.fieldLink RX2 93 "KeySumsModel" "tape" "[I") (by decide +kernel)) (fun _ h9 => h9) rfl hin rfl (by decide +kernel) rfl rfl (Nat.le_of_ble_eq_true rfl) dX2_init_566 (fun H locs hP hD hS => ?_)
  have hP : va_P (dC, dI) vwCl [(h, .inr (2, [.ref ac, .ref au, .ref ab, .ref ae, .ref am, .ref ap, .int 0, .null, .null, .null, .null, .int 0, .null, .int 0])), (ac, .inl (cJ, 64, .inl ks_k)), (au, .inl (cJ, 16, .inl ks_tt)), (ab, .inl (cJ, 4, .inl ks_begI)), (ae, .inl (cJ, 4, .inl ks_tmI)), (am, .inl (cJ, 4, .inl ks_moI)), (ap, .inl (cJ, 2000, .inl (fun _ => 0)))] H := hP
  have hD : va_D A [(h, .inr (2, [.ref ac, .ref au, .ref ab, .ref ae, .ref am, .ref ap, .int 0, .null, .null, .null, .null, .int 0, .null, .int 0])), (ac, .inl (cJ, 64, .inl ks_k)), (au, .inl (cJ, 16, .inl ks_tt)), (ab, .inl (cJ, 4, .inl ks_begI)), (ae, .inl (cJ, 4, .inl ks_tmI)), (am, .inl (cJ, 4, .inl ks_moI)), (ap, .inl (cJ, 2000, .inl (fun _ => 0)))] := hD
  refine lv_aload_n hx hb dX2_init_569 rfl (lv_at hl 0 rfl) ?_
  refine lv_bipush (v := 16) hx hb dX2_init_570 (by decide) ?_
  refine va_newa (atype := .int) (ty := .int) (N' := 16) (a0 := (16, .inl (fun _ => 0))) hx hb (hts (.arrayClass .int) (by decide +kernel)) rfl hK hP hD hS hA (fun cA => rfl) (by decide +kernel) (by decide +kernel) (by decide +kernel) (Nat.le_of_ble_eq_true rfl) (Nat.le_of_ble_eq_true rfl) dX2_init_572 (fun ak c2 H hK hP hD hS => ?_)
  have r1 : s.vm.findClass ("[" ++ FieldType.int.toString) = some cJ := (hK.2 0 _ rfl).2
  have r2 : s.vm.findClass ("[" ++ FieldType.int.toString) = some c2 := (hK.2 1 _ rfl).2
  have hc9 : cJ = c2 := Option.some.inj (r1.symm.trans r2)
  subst hc9
  have hK := hK.sub (tys' := [(cJ, .int)]) [0] rfl
  have hP : va_P (dC, dI) vwCl [(h, .inr (2, [.ref ac, .ref au, .ref ab, .ref ae, .ref am, .ref ap, .int 0, .null, .null, .null, .null, .int 0, .null, .int 0])), (ac, .inl (cJ, 64, .inl ks_k)), (au, .inl (cJ, 16, .inl ks_tt)), (ab, .inl (cJ, 4, .inl ks_begI)), (ae, .inl (cJ, 4, .inl ks_tmI)), (am, .inl (cJ, 4, .inl ks_moI)), (ap, .inl (cJ, 2000, .inl (fun _ => 0))), (ak, .inl (cJ, 16, .inl (fun _ => 0)))] H := hP
  have hD : va_D A [(h, .inr (2, [.ref ac, .ref au, .ref ab, .ref ae, .ref am, .ref ap, .int 0, .null, .null, .null, .null, .int 0, .null, .int 0])), (ac, .inl (cJ, 64, .inl ks_k)), (au, .inl (cJ, 16, .inl ks_tt)), (ab, .inl (cJ, 4, .inl ks_begI)), (ae, .inl (cJ, 4, .inl ks_tmI)), (am, .inl (cJ, 4, .inl ks_moI)), (ap, .inl (cJ, 2000, .inl (fun _ => 0))), (ak, .inl (cJ, 16, .inl (fun _ => 0)))] := hD
  have hK : va_K (dC, dI) vwCl [(cJ, .int)] s := hK
  refine W.widen (k := 7) (n := 2108) (Nat.le_of_ble_eq_true rfl) (Nat.le_of_ble_eq_true rfl) ?_
  refine va_putF (D := (dC, dI)) (ci := 2) (v := .ref ak) (ty := .array .int) (C := RX2) (T := TX2) (N := 14) hx hb hts (by decide +kernel) tyX2 tyX2_ok nmX2 hown hK hP hD hS 0 rfl rfl 7 (by decide) (hts (.fieldLink RX2 96 "KeySumsModel" "key" "[I") (by decide +kernel)) (fun _ h9 => h9) rfl hin rfl (by decide +kernel) rfl rfl (Nat.le_of_ble_eq_true rfl) dX2_init_574 (fun H locs hP hD hS => ?_)
  have hP : va_P (dC, dI) vwCl [(h, .inr (2, [.ref ac, .ref au, .ref ab, .ref ae, .ref am, .ref ap, .int 0, .ref ak, .null, .null, .null, .int 0, .null, .int 0])), (ac, .inl (cJ, 64, .inl ks_k)), (au, .inl (cJ, 16, .inl ks_tt)), (ab, .inl (cJ, 4, .inl ks_begI)), (ae, .inl (cJ, 4, .inl ks_tmI)), (am, .inl (cJ, 4, .inl ks_moI)), (ap, .inl (cJ, 2000, .inl (fun _ => 0))), (ak, .inl (cJ, 16, .inl (fun _ => 0)))] H := hP
  have hD : va_D A [(h, .inr (2, [.ref ac, .ref au, .ref ab, .ref ae, .ref am, .ref ap, .int 0, .ref ak, .null, .null, .null, .int 0, .null, .int 0])), (ac, .inl (cJ, 64, .inl ks_k)), (au, .inl (cJ, 16, .inl ks_tt)), (ab, .inl (cJ, 4, .inl ks_begI)), (ae, .inl (cJ, 4, .inl ks_tmI)), (am, .inl (cJ, 4, .inl ks_moI)), (ap, .inl (cJ, 2000, .inl (fun _ => 0))), (ak, .inl (cJ, 16, .inl (fun _ => 0)))] := hD
  refine lv_aload_n hx hb dX2_init_577 rfl (lv_at hl 0 rfl) ?_
  refine lv_bipush (v := 64) hx hb dX2_init_578 (by decide) ?_
  refine va_newa (atype := .int) (ty := .int) (N' := 64) (a0 := (64, .inl (fun _ => 0))) hx hb (hts (.arrayClass .int) (by decide +kernel)) rfl hK hP hD hS hA (fun cA => rfl) (by decide +kernel) (by decide +kernel) (by decide +kernel) (Nat.le_of_ble_eq_true rfl) (Nat.le_of_ble_eq_true rfl) dX2_init_580 (fun al c2 H hK hP hD hS => ?_)
  have r1 : s.vm.findClass ("[" ++ FieldType.int.toString) = some cJ := (hK.2 0 _ rfl).2
  have r2 : s.vm.findClass ("[" ++ FieldType.int.toString) = some c2 := (hK.2 1 _ rfl).2
  have hc9 : cJ = c2 := Option.some.inj (r1.symm.trans r2)
  subst hc9
  have hK := hK.sub (tys' := [(cJ, .int)]) [0] rfl
  have hP : va_P (dC, dI) vwCl [(h, .inr (2, [.ref ac, .ref au, .ref ab, .ref ae, .ref am, .ref ap, .int 0, .ref ak, .null, .null, .null, .int 0, .null, .int 0])), (ac, .inl (cJ, 64, .inl ks_k)), (au, .inl (cJ, 16, .inl ks_tt)), (ab, .inl (cJ, 4, .inl ks_begI)), (ae, .inl (cJ, 4, .inl ks_tmI)), (am, .inl (cJ, 4, .inl ks_moI)), (ap, .inl (cJ, 2000, .inl (fun _ => 0))), (ak, .inl (cJ, 16, .inl (fun _ => 0))), (al, .inl (cJ, 64, .inl (fun _ => 0)))] H := hP
  have hD : va_D A [(h, .inr (2, [.ref ac, .ref au, .ref ab, .ref ae, .ref am, .ref ap, .int 0, .ref ak, .null, .null, .null, .int 0, .null, .int 0])), (ac, .inl (cJ, 64, .inl ks_k)), (au, .inl (cJ, 16, .inl ks_tt)), (ab, .inl (cJ, 4, .inl ks_begI)), (ae, .inl (cJ, 4, .inl ks_tmI)), (am, .inl (cJ, 4, .inl ks_moI)), (ap, .inl (cJ, 2000, .inl (fun _ => 0))), (ak, .inl (cJ, 16, .inl (fun _ => 0))), (al, .inl (cJ, 64, .inl (fun _ => 0)))] := hD
  have hK : va_K (dC, dI) vwCl [(cJ, .int)] s := hK
  refine W.widen (k := 8) (n := 2172) (Nat.le_of_ble_eq_true rfl) (Nat.le_of_ble_eq_true rfl) ?_
  refine va_putF (D := (dC, dI)) (ci := 2) (v := .ref al) (ty := .array .int) (C := RX2) (T := TX2) (N := 14) hx hb hts (by decide +kernel) tyX2 tyX2_ok nmX2 hown hK hP hD hS 0 rfl rfl 8 (by decide) (hts (.fieldLink RX2 99 "KeySumsModel" "block" "[I") (by decide +kernel)) (fun _ h9 => h9) rfl hin rfl (by decide +kernel) rfl rfl (Nat.le_of_ble_eq_true rfl) dX2_init_582 (fun H locs hP hD hS => ?_)
  have hP : va_P (dC, dI) vwCl [(h, .inr (2, [.ref ac, .ref au, .ref ab, .ref ae, .ref am, .ref ap, .int 0, .ref ak, .ref al, .null, .null, .int 0, .null, .int 0])), (ac, .inl (cJ, 64, .inl ks_k)), (au, .inl (cJ, 16, .inl ks_tt)), (ab, .inl (cJ, 4, .inl ks_begI)), (ae, .inl (cJ, 4, .inl ks_tmI)), (am, .inl (cJ, 4, .inl ks_moI)), (ap, .inl (cJ, 2000, .inl (fun _ => 0))), (ak, .inl (cJ, 16, .inl (fun _ => 0))), (al, .inl (cJ, 64, .inl (fun _ => 0)))] H := hP
  have hD : va_D A [(h, .inr (2, [.ref ac, .ref au, .ref ab, .ref ae, .ref am, .ref ap, .int 0, .ref ak, .ref al, .null, .null, .int 0, .null, .int 0])), (ac, .inl (cJ, 64, .inl ks_k)), (au, .inl (cJ, 16, .inl ks_tt)), (ab, .inl (cJ, 4, .inl ks_begI)), (ae, .inl (cJ, 4, .inl ks_tmI)), (am, .inl (cJ, 4, .inl ks_moI)), (ap, .inl (cJ, 2000, .inl (fun _ => 0))), (ak, .inl (cJ, 16, .inl (fun _ => 0))), (al, .inl (cJ, 64, .inl (fun _ => 0)))] := hD
  refine lv_aload_n hx hb dX2_init_585 rfl (lv_at hl 0 rfl) ?_
  refine lv_iconst (v := 4) hx hb dX2_init_586 (by decide) ?_
  refine va_newa (atype := .int) (ty := .int) (N' := 4) (a0 := (4, .inl (fun _ => 0))) hx hb (hts (.arrayClass .int) (by decide +kernel)) rfl hK hP hD hS hA (fun cA => rfl) (by decide +kernel) (by decide +kernel) (by decide +kernel) (Nat.le_of_ble_eq_true rfl) (Nat.le_of_ble_eq_true rfl) dX2_init_587 (fun af c2 H hK hP hD hS => ?_)
  have r1 : s.vm.findClass ("[" ++ FieldType.int.toString) = some cJ := (hK.2 0 _ rfl).2
  have r2 : s.vm.findClass ("[" ++ FieldType.int.toString) = some c2 := (hK.2 1 _ rfl).2
  have hc9 : cJ = c2 := Option.some.inj (r1.symm.trans r2)
  subst hc9
  have hK := hK.sub (tys' := [(cJ, .int)]) [0] rfl
  have hP : va_P (dC, dI) vwCl [(h, .inr (2, [.ref ac, .ref au, .ref ab, .ref ae, .ref am, .ref ap, .int 0, .ref ak, .ref al, .null, .null, .int 0, .null, .int 0])), (ac, .inl (cJ, 64, .inl ks_k)), (au, .inl (cJ, 16, .inl ks_tt)), (ab, .inl (cJ, 4, .inl ks_begI)), (ae, .inl (cJ, 4, .inl ks_tmI)), (am, .inl (cJ, 4, .inl ks_moI)), (ap, .inl (cJ, 2000, .inl (fun _ => 0))), (ak, .inl (cJ, 16, .inl (fun _ => 0))), (al, .inl (cJ, 64, .inl (fun _ => 0))), (af, .inl (cJ, 4, .inl (fun _ => 0)))] H := hP
  have hD : va_D A [(h, .inr (2, [.ref ac, .ref au, .ref ab, .ref ae, .ref am, .ref ap, .int 0, .ref ak, .ref al, .null, .null, .int 0, .null, .int 0])), (ac, .inl (cJ, 64, .inl ks_k)), (au, .inl (cJ, 16, .inl ks_tt)), (ab, .inl (cJ, 4, .inl ks_begI)), (ae, .inl (cJ, 4, .inl ks_tmI)), (am, .inl (cJ, 4, .inl ks_moI)), (ap, .inl (cJ, 2000, .inl (fun _ => 0))), (ak, .inl (cJ, 16, .inl (fun _ => 0))), (al, .inl (cJ, 64, .inl (fun _ => 0))), (af, .inl (cJ, 4, .inl (fun _ => 0)))] := hD
  have hK : va_K (dC, dI) vwCl [(cJ, .int)] s := hK
  refine W.widen (k := 9) (n := 2176) (Nat.le_of_ble_eq_true rfl) (Nat.le_of_ble_eq_true rfl) ?_
  refine va_putF (D := (dC, dI)) (ci := 2) (v := .ref af) (ty := .array .int) (C := RX2) (T := TX2) (N := 14) hx hb hts (by decide +kernel) tyX2 tyX2_ok nmX2 hown hK hP hD hS 0 rfl rfl 9 (by decide) (hts (.fieldLink RX2 102 "KeySumsModel" "four" "[I") (by decide +kernel)) (fun _ h9 => h9) rfl hin rfl (by decide +kernel) rfl rfl (Nat.le_of_ble_eq_true rfl) dX2_init_589 (fun H locs hP hD hS => ?_)
  have hP : va_P (dC, dI) vwCl [(h, .inr (2, [.ref ac, .ref au, .ref ab, .ref ae, .ref am, .ref ap, .int 0, .ref ak, .ref al, .ref af, .null, .int 0, .null, .int 0])), (ac, .inl (cJ, 64, .inl ks_k)), (au, .inl (cJ, 16, .inl ks_tt)), (ab, .inl (cJ, 4, .inl ks_begI)), (ae, .inl (cJ, 4, .inl ks_tmI)), (am, .inl (cJ, 4, .inl ks_moI)), (ap, .inl (cJ, 2000, .inl (fun _ => 0))), (ak, .inl (cJ, 16, .inl (fun _ => 0))), (al, .inl (cJ, 64, .inl (fun _ => 0))), (af, .inl (cJ, 4, .inl (fun _ => 0)))] H := hP
  have hD : va_D A [(h, .inr (2, [.ref ac, .ref au, .ref ab, .ref ae, .ref am, .ref ap, .int 0, .ref ak, .ref al, .ref af, .null, .int 0, .null, .int 0])), (ac, .inl (cJ, 64, .inl ks_k)), (au, .inl (cJ, 16, .inl ks_tt)), (ab, .inl (cJ, 4, .inl ks_begI)), (ae, .inl (cJ, 4, .inl ks_tmI)), (am, .inl (cJ, 4, .inl ks_moI)), (ap, .inl (cJ, 2000, .inl (fun _ => 0))), (ak, .inl (cJ, 16, .inl (fun _ => 0))), (al, .inl (cJ, 64, .inl (fun _ => 0))), (af, .inl (cJ, 4, .inl (fun _ => 0)))] := hD
  refine lv_aload_n hx hb dX2_init_592 rfl (lv_at hl 0 rfl) ?_
  refine lv_iconst (v := 4) hx hb dX2_init_593 (by decide) ?_
  refine va_newa (atype := .int) (ty := .int) (N' := 4) (a0 := (4, .inl (fun _ => 0))) hx hb (hts (.arrayClass .int) (by decide +kernel)) rfl hK hP hD hS hA (fun cA => rfl) (by decide +kernel) (by decide +kernel) (by decide +kernel) (Nat.le_of_ble_eq_true rfl) (Nat.le_of_ble_eq_true rfl) dX2_init_594 (fun an c2 H hK hP hD hS => ?_)
  have r1 : s.vm.findClass ("[" ++ FieldType.int.toString) = some cJ := (hK.2 0 _ rfl).2
  have r2 : s.vm.findClass ("[" ++ FieldType.int.toString) = some c2 := (hK.2 1 _ rfl).2
  have hc9 : cJ = c2 := Option.some.inj (r1.symm.trans r2)
  subst hc9
  have hK := hK.sub (tys' := [(cJ, .int)]) [0] rfl
  have hP : va_P (dC, dI) vwCl [(h, .inr (2, [.ref ac, .ref au, .ref ab, .ref ae, .ref am, .ref ap, .int 0, .ref ak, .ref al, .ref af, .null, .int 0, .null, .int 0])), (ac, .inl (cJ, 64, .inl ks_k)), (au, .inl (cJ, 16, .inl ks_tt)), (ab, .inl (cJ, 4, .inl ks_begI)), (ae, .inl (cJ, 4, .inl ks_tmI)), (am, .inl (cJ, 4, .inl ks_moI)), (ap, .inl (cJ, 2000, .inl (fun _ => 0))), (ak, .inl (cJ, 16, .inl (fun _ => 0))), (al, .inl (cJ, 64, .inl (fun _ => 0))), (af, .inl (cJ, 4, .inl (fun _ => 0))), (an, .inl (cJ, 4, .inl (fun _ => 0)))] H := hP
  have hD : va_D A [(h, .inr (2, [.ref ac, .ref au, .ref ab, .ref ae, .ref am, .ref ap, .int 0, .ref ak, .ref al, .ref af, .null, .int 0, .null, .int 0])), (ac, .inl (cJ, 64, .inl ks_k)), (au, .inl (cJ, 16, .inl ks_tt)), (ab, .inl (cJ, 4, .inl ks_begI)), (ae, .inl (cJ, 4, .inl ks_tmI)), (am, .inl (cJ, 4, .inl ks_moI)), (ap, .inl (cJ, 2000, .inl (fun _ => 0))), (ak, .inl (cJ, 16, .inl (fun _ => 0))), (al, .inl (cJ, 64, .inl (fun _ => 0))), (af, .inl (cJ, 4, .inl (fun _ => 0))), (an, .inl (cJ, 4, .inl (fun _ => 0)))] := hD
  have hK : va_K (dC, dI) vwCl [(cJ, .int)] s := hK
  refine W.widen (k := 10) (n := 2180) (Nat.le_of_ble_eq_true rfl) (Nat.le_of_ble_eq_true rfl) ?_
  refine va_putF (D := (dC, dI)) (ci := 2) (v := .ref an) (ty := .array .int) (C := RX2) (T := TX2) (N := 14) hx hb hts (by decide +kernel) tyX2 tyX2_ok nmX2 hown hK hP hD hS 0 rfl rfl 10 (by decide) (hts (.fieldLink RX2 105 "KeySumsModel" "now" "[I") (by decide +kernel)) (fun _ h9 => h9) rfl hin rfl (by decide +kernel) rfl rfl (Nat.le_of_ble_eq_true rfl) dX2_init_596 (fun H locs hP hD hS => ?_)
  have hP : va_P (dC, dI) vwCl [(h, .inr (2, [.ref ac, .ref au, .ref ab, .ref ae, .ref am, .ref ap, .int 0, .ref ak, .ref al, .ref af, .ref an, .int 0, .null, .int 0])), (ac, .inl (cJ, 64, .inl ks_k)), (au, .inl (cJ, 16, .inl ks_tt)), (ab, .inl (cJ, 4, .inl ks_begI)), (ae, .inl (cJ, 4, .inl ks_tmI)), (am, .inl (cJ, 4, .inl ks_moI)), (ap, .inl (cJ, 2000, .inl (fun _ => 0))), (ak, .inl (cJ, 16, .inl (fun _ => 0))), (al, .inl (cJ, 64, .inl (fun _ => 0))), (af, .inl (cJ, 4, .inl (fun _ => 0))), (an, .inl (cJ, 4, .inl (fun _ => 0)))] H := hP
  have hD : va_D A [(h, .inr (2, [.ref ac, .ref au, .ref ab, .ref ae, .ref am, .ref ap, .int 0, .ref ak, .ref al, .ref af, .ref an, .int 0, .null, .int 0])), (ac, .inl (cJ, 64, .inl ks_k)), (au, .inl (cJ, 16, .inl ks_tt)), (ab, .inl (cJ, 4, .inl ks_begI)), (ae, .inl (cJ, 4, .inl ks_tmI)), (am, .inl (cJ, 4, .inl ks_moI)), (ap, .inl (cJ, 2000, .inl (fun _ => 0))), (ak, .inl (cJ, 16, .inl (fun _ => 0))), (al, .inl (cJ, 64, .inl (fun _ => 0))), (af, .inl (cJ, 4, .inl (fun _ => 0))), (an, .inl (cJ, 4, .inl (fun _ => 0)))] := hD
  refine lv_aload_n hx hb dX2_init_599 rfl (lv_at hl 0 rfl) ?_
  refine lv_bipush (v := 16) hx hb dX2_init_600 (by decide) ?_
  refine va_newa (atype := .int) (ty := .int) (N' := 16) (a0 := (16, .inl (fun _ => 0))) hx hb (hts (.arrayClass .int) (by decide +kernel)) rfl hK hP hD hS hA (fun cA => rfl) (by decide +kernel) (by decide +kernel) (by decide +kernel) (Nat.le_of_ble_eq_true rfl) (Nat.le_of_ble_eq_true rfl) dX2_init_602 (fun ar c2 H hK hP hD hS => ?_)
  have r1 : s.vm.findClass ("[" ++ FieldType.int.toString) = some cJ := (hK.2 0 _ rfl).2
  have r2 : s.vm.findClass ("[" ++ FieldType.int.toString) = some c2 := (hK.2 1 _ rfl).2
  have hc9 : cJ = c2 := Option.some.inj (r1.symm.trans r2)
  subst hc9
  have hK := hK.sub (tys' := [(cJ, .int)]) [0] rfl
  have hP : va_P (dC, dI) vwCl [(h, .inr (2, [.ref ac, .ref au, .ref ab, .ref ae, .ref am, .ref ap, .int 0, .ref ak, .ref al, .ref af, .ref an, .int 0, .null, .int 0])), (ac, .inl (cJ, 64, .inl ks_k)), (au, .inl (cJ, 16, .inl ks_tt)), (ab, .inl (cJ, 4, .inl ks_begI)), (ae, .inl (cJ, 4, .inl ks_tmI)), (am, .inl (cJ, 4, .inl ks_moI)), (ap, .inl (cJ, 2000, .inl (fun _ => 0))), (ak, .inl (cJ, 16, .inl (fun _ => 0))), (al, .inl (cJ, 64, .inl (fun _ => 0))), (af, .inl (cJ, 4, .inl (fun _ => 0))), (an, .inl (cJ, 4, .inl (fun _ => 0))), (ar, .inl (cJ, 16, .inl (fun _ => 0)))] H := hP
  have hD : va_D A [(h, .inr (2, [.ref ac, .ref au, .ref ab, .ref ae, .ref am, .ref ap, .int 0, .ref ak, .ref al, .ref af, .ref an, .int 0, .null, .int 0])), (ac, .inl (cJ, 64, .inl ks_k)), (au, .inl (cJ, 16, .inl ks_tt)), (ab, .inl (cJ, 4, .inl ks_begI)), (ae, .inl (cJ, 4, .inl ks_tmI)), (am, .inl (cJ, 4, .inl ks_moI)), (ap, .inl (cJ, 2000, .inl (fun _ => 0))), (ak, .inl (cJ, 16, .inl (fun _ => 0))), (al, .inl (cJ, 64, .inl (fun _ => 0))), (af, .inl (cJ, 4, .inl (fun _ => 0))), (an, .inl (cJ, 4, .inl (fun _ => 0))), (ar, .inl (cJ, 16, .inl (fun _ => 0)))] := hD
  have hK : va_K (dC, dI) vwCl [(cJ, .int)] s := hK
  refine W.widen (k := 11) (n := 2196) (Nat.le_of_ble_eq_true rfl) (Nat.le_of_ble_eq_true rfl) ?_
  refine va_putF (D := (dC, dI)) (ci := 2) (v := .ref ar) (ty := .array .int) (C := RX2) (T := TX2) (N := 14) hx hb hts (by decide +kernel) tyX2 tyX2_ok nmX2 hown hK hP hD hS 0 rfl rfl 12 (by decide) (hts (.fieldLink RX2 108 "KeySumsModel" "result" "[I") (by decide +kernel)) (fun _ h9 => h9) rfl hin rfl (by decide +kernel) rfl rfl (Nat.le_of_ble_eq_true rfl) dX2_init_604 (fun H locs hP hD hS => ?_)
  have hP : va_P (dC, dI) vwCl [(h, .inr (2, [.ref ac, .ref au, .ref ab, .ref ae, .ref am, .ref ap, .int 0, .ref ak, .ref al, .ref af, .ref an, .int 0, .ref ar, .int 0])), (ac, .inl (cJ, 64, .inl ks_k)), (au, .inl (cJ, 16, .inl ks_tt)), (ab, .inl (cJ, 4, .inl ks_begI)), (ae, .inl (cJ, 4, .inl ks_tmI)), (am, .inl (cJ, 4, .inl ks_moI)), (ap, .inl (cJ, 2000, .inl (fun _ => 0))), (ak, .inl (cJ, 16, .inl (fun _ => 0))), (al, .inl (cJ, 64, .inl (fun _ => 0))), (af, .inl (cJ, 4, .inl (fun _ => 0))), (an, .inl (cJ, 4, .inl (fun _ => 0))), (ar, .inl (cJ, 16, .inl (fun _ => 0)))] H := hP
  have hD : va_D A [(h, .inr (2, [.ref ac, .ref au, .ref ab, .ref ae, .ref am, .ref ap, .int 0, .ref ak, .ref al, .ref af, .ref an, .int 0, .ref ar, .int 0])), (ac, .inl (cJ, 64, .inl ks_k)), (au, .inl (cJ, 16, .inl ks_tt)), (ab, .inl (cJ, 4, .inl ks_begI)), (ae, .inl (cJ, 4, .inl ks_tmI)), (am, .inl (cJ, 4, .inl ks_moI)), (ap, .inl (cJ, 2000, .inl (fun _ => 0))), (ak, .inl (cJ, 16, .inl (fun _ => 0))), (al, .inl (cJ, 64, .inl (fun _ => 0))), (af, .inl (cJ, 4, .inl (fun _ => 0))), (an, .inl (cJ, 4, .inl (fun _ => 0))), (ar, .inl (cJ, 16, .inl (fun _ => 0)))] := hD
  refine lv_aload_n hx hb dX2_init_607 rfl (lv_at hl 0 rfl) ?_
  have hPc := hP.sub (ws' := [(h, .inr (2, [.ref ac, .ref au, .ref ab, .ref ae, .ref am, .ref ap, .int 0, .ref ak, .ref al, .ref af, .ref an, .int 0, .ref ar, .int 0])), (ab, .inl (cJ, 4, .inl ks_begI)), (af, .inl (cJ, 4, .inl (fun _ => 0)))]) [0, 3, 9] rfl
  have hDc := hD.sub (ws' := [(h, .inr (2, [.ref ac, .ref au, .ref ab, .ref ae, .ref am, .ref ap, .int 0, .ref ak, .ref al, .ref af, .ref an, .int 0, .ref ar, .int 0])), (ab, .inl (cJ, 4, .inl ks_begI)), (af, .inl (cJ, 4, .inl (fun _ => 0)))]) [0, 3, 9] (by decide) rfl
  have hKc := hK.sub (tys' := [(cJ, .int)]) [0] rfl
  have hFc := va_free (wc := [(h, .inr (2, [.ref ac, .ref au, .ref ab, .ref ae, .ref am, .ref ap, .int 0, .ref ak, .ref al, .ref af, .ref an, .int 0, .ref ar, .int 0])), (ab, .inl (cJ, 4, .inl ks_begI)), (af, .inl (cJ, 4, .inl (fun _ => 0)))]) hD hS hA [0, 3, 9] rfl
  refine va_callv (va_runV (As := []) (rest := []) ⟨hx, hb, hml, hown, hts⟩ (r_anew l dC dI H.size h ac au ab ae am ap ak al af an ar cJ 0 0 0 ks_begI (fun _ => 0)) (cwV 0 hts gX2_init_X2_anew rfl rfl rfl (by decide +kernel) ⟨Nat.le_of_ble_eq_true rfl, Nat.le_of_ble_eq_true rfl⟩) ⟨fun a U g mk q => by obtain ⟨q0, q1, qP, qK, qD⟩ := q; exact ⟨q0, q1, qP, va_K.moved (u := U) (U := U.calling g mk a) (Vm.Alike.refl U.vm) qK, qD⟩, va_recv hKc hPc (ci := 2) (q0 := 0) rfl rfl, fun U hU hW => ⟨rfl, by rw [hU], by rw [hU]; exact hPc, va_K.moved hW.alike hKc, hDc.weaken (fun _ _ _ _ => trivial)⟩⟩ rfl rfl hl.1 rfl (lv_room (Nat.le_of_ble_eq_true rfl)) dX2_init_608 ⟨Nat.le_of_ble_eq_true rfl, Nat.le_of_ble_eq_true rfl⟩) hS (fun q _ h => hFc q h) hFc (fun u t H1 locs ht hvm hw hB hz1 hk1 hS => ?_)
  obtain ⟨hP1, hK1, hD1⟩ := hB
  rw [ht] at hP1
  have hK1 := va_K.moved hvm.symm hK1
  try dsimp only at hw
  obtain ⟨hP, hD⟩ := va_join (wr := [(ac, .inl (cJ, 64, .inl ks_k)), (au, .inl (cJ, 16, .inl ks_tt)), (ae, .inl (cJ, 4, .inl ks_tmI)), (am, .inl (cJ, 4, .inl ks_moI)), (ap, .inl (cJ, 2000, .inl (fun _ => 0))), (ak, .inl (cJ, 16, .inl (fun _ => 0))), (al, .inl (cJ, 64, .inl (fun _ => 0))), (an, .inl (cJ, 4, .inl (fun _ => 0))), (ar, .inl (cJ, 16, .inl (fun _ => 0)))]) (w1 := [(h, .inr (2, [.ref ac, .ref au, .ref ab, .ref ae, .ref am, .ref ap, .int 0, .ref ak, .ref al, .ref af, .ref an, .int (nI 0), .ref ar, .int 0])), (ab, .inl (cJ, 4, .inl ks_begI)), (af, .inl (cJ, 4, .inl u))]) hP hD [0, 3, 9] [1, 2, 4, 5, 6, 7, 8, 10, 11] rfl rfl (by decide) (by decide) hk1 hFc hP1 hD1
  have hP := hP.sub (ws' := [(h, .inr (2, [.ref ac, .ref au, .ref ab, .ref ae, .ref am, .ref ap, .int 0, .ref ak, .ref al, .ref af, .ref an, .int (nI 0), .ref ar, .int 0])), (ac, .inl (cJ, 64, .inl ks_k)), (au, .inl (cJ, 16, .inl ks_tt)), (ab, .inl (cJ, 4, .inl ks_begI)), (ae, .inl (cJ, 4, .inl ks_tmI)), (am, .inl (cJ, 4, .inl ks_moI)), (ap, .inl (cJ, 2000, .inl (fun _ => 0))), (ak, .inl (cJ, 16, .inl (fun _ => 0))), (al, .inl (cJ, 64, .inl (fun _ => 0))), (af, .inl (cJ, 4, .inl u)), (an, .inl (cJ, 4, .inl (fun _ => 0))), (ar, .inl (cJ, 16, .inl (fun _ => 0)))]) [9, 0, 1, 10, 2, 3, 4, 5, 6, 11, 7, 8] rfl
  have hD := hD.sub (ws' := [(h, .inr (2, [.ref ac, .ref au, .ref ab, .ref ae, .ref am, .ref ap, .int 0, .ref ak, .ref al, .ref af, .ref an, .int (nI 0), .ref ar, .int 0])), (ac, .inl (cJ, 64, .inl ks_k)), (au, .inl (cJ, 16, .inl ks_tt)), (ab, .inl (cJ, 4, .inl ks_begI)), (ae, .inl (cJ, 4, .inl ks_tmI)), (am, .inl (cJ, 4, .inl ks_moI)), (ap, .inl (cJ, 2000, .inl (fun _ => 0))), (ak, .inl (cJ, 16, .inl (fun _ => 0))), (al, .inl (cJ, 64, .inl (fun _ => 0))), (af, .inl (cJ, 4, .inl u)), (an, .inl (cJ, 4, .inl (fun _ => 0))), (ar, .inl (cJ, 16, .inl (fun _ => 0)))]) [9, 0, 1, 10, 2, 3, 4, 5, 6, 11, 7, 8] (by decide) rfl
  generalize H1 = H at hP hS ⊢
  have hP : va_P (dC, dI) vwCl [(h, .inr (2, [.ref ac, .ref au, .ref ab, .ref ae, .ref am, .ref ap, .int 0, .ref ak, .ref al, .ref af, .ref an, .int (nI 0), .ref ar, .int 0])), (ac, .inl (cJ, 64, .inl ks_k)), (au, .inl (cJ, 16, .inl ks_tt)), (ab, .inl (cJ, 4, .inl ks_begI)), (ae, .inl (cJ, 4, .inl ks_tmI)), (am, .inl (cJ, 4, .inl ks_moI)), (ap, .inl (cJ, 2000, .inl (fun _ => 0))), (ak, .inl (cJ, 16, .inl (fun _ => 0))), (al, .inl (cJ, 64, .inl (fun _ => 0))), (af, .inl (cJ, 4, .inl u)), (an, .inl (cJ, 4, .inl (fun _ => 0))), (ar, .inl (cJ, 16, .inl (fun _ => 0)))] H := hP
  have hD : va_D A [(h, .inr (2, [.ref ac, .ref au, .ref ab, .ref ae, .ref am, .ref ap, .int 0, .ref ak, .ref al, .ref af, .ref an, .int (nI 0), .ref ar, .int 0])), (ac, .inl (cJ, 64, .inl ks_k)), (au, .inl (cJ, 16, .inl ks_tt)), (ab, .inl (cJ, 4, .inl ks_begI)), (ae, .inl (cJ, 4, .inl ks_tmI)), (am, .inl (cJ, 4, .inl ks_moI)), (ap, .inl (cJ, 2000, .inl (fun _ => 0))), (ak, .inl (cJ, 16, .inl (fun _ => 0))), (al, .inl (cJ, 64, .inl (fun _ => 0))), (af, .inl (cJ, 4, .inl u)), (an, .inl (cJ, 4, .inl (fun _ => 0))), (ar, .inl (cJ, 16, .inl (fun _ => 0)))] := hD
  refine W.widen (k := 11) (n := 2196) (Nat.le_of_ble_eq_true rfl) (Nat.le_of_ble_eq_true rfl) ?_
  have hP9 := hP.sub (ws' := [(h, .inr (2, [.ref ac, .ref au, .ref ab, .ref ae, .ref am, .ref ap, .int 0, .ref ak, .ref al, .ref af, .ref an, .int (nI 0), .ref ar, .int 0])), (ac, .inl (cJ, 64, .inl ks_k)), (au, .inl (cJ, 16, .inl ks_tt)), (ab, .inl (cJ, 4, .inl ks_begI)), (ae, .inl (cJ, 4, .inl ks_tmI)), (am, .inl (cJ, 4, .inl ks_moI)), (ap, .inl (cJ, 2000, .inl (fun _ => 0))), (ak, .inl (cJ, 16, .inl (fun _ => 0))), (al, .inl (cJ, 64, .inl (fun _ => 0))), (af, .inl (cJ, 4, .inl u)), (an, .inl (cJ, 4, .inl (fun _ => 0))), (ar, .inl (cJ, 16, .inl (fun _ => 0)))]) [0, 1, 2, 3, 4, 5, 6, 7, 8, 9, 10, 11] rfl
  have hD9 := hD.sub (ws' := [(h, .inr (2, [.ref ac, .ref au, .ref ab, .ref ae, .ref am, .ref ap, .int 0, .ref ak, .ref al, .ref af, .ref an, .int (nI 0), .ref ar, .int 0])), (ac, .inl (cJ, 64, .inl ks_k)), (au, .inl (cJ, 16, .inl ks_tt)), (ab, .inl (cJ, 4, .inl ks_begI)), (ae, .inl (cJ, 4, .inl ks_tmI)), (am, .inl (cJ, 4, .inl ks_moI)), (ap, .inl (cJ, 2000, .inl (fun _ => 0))), (ak, .inl (cJ, 16, .inl (fun _ => 0))), (al, .inl (cJ, 64, .inl (fun _ => 0))), (af, .inl (cJ, 4, .inl u)), (an, .inl (cJ, 4, .inl (fun _ => 0))), (ar, .inl (cJ, 16, .inl (fun _ => 0)))]) [0, 1, 2, 3, 4, 5, 6, 7, 8, 9, 10, 11] (by decide) rfl
  have hK9 := hK.sub (tys' := [(cJ, .int)]) [0] rfl
  exact W.vret hx hb hr (fun t ht hW => ⟨⟨u, rfl, hw, ac, au, ab, ae, am, ap, ak, al, af, an, ar, cJ, by rw [ht]; exact hP9, va_K.moved hW.alike hK9, hD9⟩, hS.F ht⟩) hS.2.2 dX2_init_611
