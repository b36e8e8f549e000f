set_option maxHeartbeats 4000000 in
set_option maxRecDepth 100000 in
/-- choose -/
theorem c_choose (l : Launch) (k : Nat) (hk : k < 4) (x y z : Int32) : Met l yX0_choose wsX0_choose ({ frames := 0, cells := 0, slots := 0, locals := 0 }) (va_Pc [.int (nI k), .int x, .int y, .int z] (fun _ => True)) (vp_Si (fun z9 => z9 = ks_F k x y z)) 0 0 (fun _ => False) := by
  refine Met.ofW (cc := cX0_choose) (maxL := 4) (ret := (some .int)) (by decide) rfl ?_
  intro p e s m args below meth c s₁ B hml hv
  obtain ⟨rfl, -⟩ := hv
  have hx := B.exec
  have hb := B.bytes
  have hr := B.returns
  have hlocks := B.notSynchronized
  have hl := lv_entry ([.int (nI k), .int x, .int y, .int z]) (n := 4) (Nat.le_of_ble_eq_true rfl)
  rw [lg_entry_eq]
  generalize (lg_sl ([.int (nI k), .int x, .int y, .int z]) ++ List.replicate (4 - (lg_sl ([.int (nI k), .int x, .int y, .int z])).length) Slot.unset).toArray = ls at hl ⊢
  have hl : lv_has ls 4 [(0, .int (nI k)), (1, .int x), (2, .int y), (3, .int z)] := hl
  obtain rfl | rfl | rfl | rfl : k = 0 ∨ k = 1 ∨ k = 2 ∨ k = 3 := by omega
  · skip
    refine lv_iload_n hx hb dX0_choose_0 rfl (lv_at hl 0 rfl) ?_
    refine lv_tableIn (off := 27) (tgt := 28) hx hb dX0_choose_1 (by decide +kernel) (by decide +kernel) (by decide +kernel) (by decide) ?_
    refine lv_iload_n hx hb dX0_choose_28 rfl (lv_at hl 1 rfl) ?_
    refine lv_iload_n hx hb dX0_choose_29 rfl (lv_at hl 2 rfl) ?_
    refine lv_iand hx hb dX0_choose_30 ?_
    refine lv_iload_n hx hb dX0_choose_31 rfl (lv_at hl 1 rfl) ?_
    refine lv_iconst (v := (-1)) hx hb dX0_choose_32 (by decide) ?_
    refine lv_ixor hx hb dX0_choose_33 ?_
    refine lv_iload_n hx hb dX0_choose_34 rfl (lv_at hl 3 rfl) ?_
    refine lv_iand hx hb dX0_choose_35 ?_
    refine lv_ior hx hb dX0_choose_36 ?_
    exact W.iret (v := ((x &&& y) ||| ((x ^^^ (-1)) &&& z))) hx hb hr (fun t ht hW => ⟨((x &&& y) ||| ((x ^^^ (-1)) &&& z)), rfl, rfl, ht⟩) (fun q h => by cases h) dX0_choose_37
  · skip
    refine lv_iload_n hx hb dX0_choose_0 rfl (lv_at hl 0 rfl) ?_
    refine lv_tableIn (off := 37) (tgt := 38) hx hb dX0_choose_1 (by decide +kernel) (by decide +kernel) (by decide +kernel) (by decide) ?_
    refine lv_iload_n hx hb dX0_choose_38 rfl (lv_at hl 3 rfl) ?_
    refine lv_iload_n hx hb dX0_choose_39 rfl (lv_at hl 1 rfl) ?_
    refine lv_iand hx hb dX0_choose_40 ?_
    refine lv_iload_n hx hb dX0_choose_41 rfl (lv_at hl 3 rfl) ?_
    refine lv_iconst (v := (-1)) hx hb dX0_choose_42 (by decide) ?_
    refine lv_ixor hx hb dX0_choose_43 ?_
    refine lv_iload_n hx hb dX0_choose_44 rfl (lv_at hl 2 rfl) ?_
    refine lv_iand hx hb dX0_choose_45 ?_
    refine lv_ior hx hb dX0_choose_46 ?_
    exact W.iret (v := ((z &&& x) ||| ((z ^^^ (-1)) &&& y))) hx hb hr (fun t ht hW => ⟨((z &&& x) ||| ((z ^^^ (-1)) &&& y)), rfl, rfl, ht⟩) (fun q h => by cases h) dX0_choose_47
  · skip
    refine lv_iload_n hx hb dX0_choose_0 rfl (lv_at hl 0 rfl) ?_
    refine lv_tableIn (off := 47) (tgt := 48) hx hb dX0_choose_1 (by decide +kernel) (by decide +kernel) (by decide +kernel) (by decide) ?_
    refine lv_iload_n hx hb dX0_choose_48 rfl (lv_at hl 1 rfl) ?_
    refine lv_iload_n hx hb dX0_choose_49 rfl (lv_at hl 2 rfl) ?_
    refine lv_ixor hx hb dX0_choose_50 ?_
    refine lv_iload_n hx hb dX0_choose_51 rfl (lv_at hl 3 rfl) ?_
    refine lv_ixor hx hb dX0_choose_52 ?_
    exact W.iret (v := ((x ^^^ y) ^^^ z)) hx hb hr (fun t ht hW => ⟨((x ^^^ y) ^^^ z), rfl, rfl, ht⟩) (fun q h => by cases h) dX0_choose_53
  · skip
    refine lv_iload_n hx hb dX0_choose_0 rfl (lv_at hl 0 rfl) ?_
    refine lv_tableOut (tgt := 54) hx hb dX0_choose_1 (Or.inr (by decide +kernel)) (by decide) ?_
    refine lv_iload_n hx hb dX0_choose_54 rfl (lv_at hl 2 rfl) ?_
    refine lv_iload_n hx hb dX0_choose_55 rfl (lv_at hl 1 rfl) ?_
    refine lv_iload_n hx hb dX0_choose_56 rfl (lv_at hl 3 rfl) ?_
    refine lv_iconst (v := (-1)) hx hb dX0_choose_57 (by decide) ?_
    refine lv_ixor hx hb dX0_choose_58 ?_
    refine lv_ior hx hb dX0_choose_59 ?_
    refine lv_ixor hx hb dX0_choose_60 ?_
    exact W.iret (v := (y ^^^ (x ||| (z ^^^ (-1))))) hx hb hr (fun t ht hW => ⟨(y ^^^ (x ||| (z ^^^ (-1)))), rfl, rfl, ht⟩) (fun q h => by cases h) dX0_choose_61
set_option maxHeartbeats 4000000 in
set_option maxRecDepth 100000 in
/-- wordOf -/
theorem c_wordOf (l : Launch) (i : Nat) (hi : i < 64) : Met l yX0_wordOf wsX0_wordOf ({ frames := 0, cells := 0, slots := 0, locals := 0 }) (va_Pc [.int (nI (i / 16)), .int (nI i)] (fun _ => True)) (vp_Si (fun z9 => z9 = nI (ks_g i))) 0 0 (fun _ => False) := by
  refine Met.ofW (cc := cX0_wordOf) (maxL := 2) (ret := (some .int)) (by decide) rfl ?_
  intro p e s m args below meth c s₁ B hml hv
  obtain ⟨rfl, -⟩ := hv
  have hx := B.exec
  have hb := B.bytes
  have hr := B.returns
  have hlocks := B.notSynchronized
  have hl := lv_entry ([.int (nI (i / 16)), .int (nI i)]) (n := 2) (Nat.le_of_ble_eq_true rfl)
  rw [lg_entry_eq]
  generalize (lg_sl ([.int (nI (i / 16)), .int (nI i)]) ++ List.replicate (2 - (lg_sl ([.int (nI (i / 16)), .int (nI i)])).length) Slot.unset).toArray = ls at hl ⊢
  have hl : lv_has ls 2 [(0, .int (nI (i / 16))), (1, .int (nI i))] := hl
  have hk : i / 16 < 4 := by omega
  have hg : ks_g i = ks_g i := rfl
  unfold ks_g
  generalize hke : i / 16 = k at hk hl ⊢
  obtain rfl | rfl | rfl | rfl : k = 0 ∨ k = 1 ∨ k = 2 ∨ k = 3 := by omega
  · skip
    refine lv_iload_n hx hb dX0_wordOf_0 rfl (lv_at hl 0 rfl) ?_
    refine lv_tableIn (off := 27) (tgt := 28) hx hb dX0_wordOf_1 (by decide +kernel) (by decide +kernel) (by decide +kernel) (by decide) ?_
    refine lv_iload_n hx hb dX0_wordOf_28 rfl (lv_at hl 1 rfl) ?_
    refine lv_bipush (v := 15) hx hb dX0_wordOf_29 (by decide) ?_
    refine lv_iand hx hb dX0_wordOf_31 ?_
    refine kz_top (y := nI ((i) % 16)) (pk_andN (by omega) 4 (by decide)) ?_
    exact W.iret (v := (nI ((i) % 16))) hx hb hr (fun t ht hW => ⟨(nI ((i) % 16)), rfl, rfl, ht⟩) (fun q h => by cases h) dX0_wordOf_32
  · skip
    refine lv_iload_n hx hb dX0_wordOf_0 rfl (lv_at hl 0 rfl) ?_
    refine lv_tableIn (off := 32) (tgt := 33) hx hb dX0_wordOf_1 (by decide +kernel) (by decide +kernel) (by decide +kernel) (by decide) ?_
    refine lv_iconst (v := 5) hx hb dX0_wordOf_33 (by decide) ?_
    refine lv_iload_n hx hb dX0_wordOf_34 rfl (lv_at hl 1 rfl) ?_
    refine lv_imul hx hb dX0_wordOf_35 ?_
    refine kz_top (y := nI (5 * i)) (pk_mul 5 i) ?_
    refine lv_iconst (v := 1) hx hb dX0_wordOf_36 (by decide) ?_
    refine lv_iadd hx hb dX0_wordOf_37 ?_
    refine kz_top (y := nI (5 * i + 1)) (nI_add (5 * i) 1) ?_
    refine lv_bipush (v := 15) hx hb dX0_wordOf_38 (by decide) ?_
    refine lv_iand hx hb dX0_wordOf_40 ?_
    refine kz_top (y := nI ((5 * i + 1) % 16)) (pk_andN (by omega) 4 (by decide)) ?_
    exact W.iret (v := (nI ((5 * i + 1) % 16))) hx hb hr (fun t ht hW => ⟨(nI ((5 * i + 1) % 16)), rfl, rfl, ht⟩) (fun q h => by cases h) dX0_wordOf_41
  · skip
    refine lv_iload_n hx hb dX0_wordOf_0 rfl (lv_at hl 0 rfl) ?_
    refine lv_tableIn (off := 41) (tgt := 42) hx hb dX0_wordOf_1 (by decide +kernel) (by decide +kernel) (by decide +kernel) (by decide) ?_
    refine lv_iconst (v := 3) hx hb dX0_wordOf_42 (by decide) ?_
    refine lv_iload_n hx hb dX0_wordOf_43 rfl (lv_at hl 1 rfl) ?_
    refine lv_imul hx hb dX0_wordOf_44 ?_
    refine kz_top (y := nI (3 * i)) (pk_mul 3 i) ?_
    refine lv_iconst (v := 5) hx hb dX0_wordOf_45 (by decide) ?_
    refine lv_iadd hx hb dX0_wordOf_46 ?_
    refine kz_top (y := nI (3 * i + 5)) (nI_add (3 * i) 5) ?_
    refine lv_bipush (v := 15) hx hb dX0_wordOf_47 (by decide) ?_
    refine lv_iand hx hb dX0_wordOf_49 ?_
    refine kz_top (y := nI ((3 * i + 5) % 16)) (pk_andN (by omega) 4 (by decide)) ?_
    exact W.iret (v := (nI ((3 * i + 5) % 16))) hx hb hr (fun t ht hW => ⟨(nI ((3 * i + 5) % 16)), rfl, rfl, ht⟩) (fun q h => by cases h) dX0_wordOf_50
  · skip
    refine lv_iload_n hx hb dX0_wordOf_0 rfl (lv_at hl 0 rfl) ?_
    refine lv_tableOut (tgt := 51) hx hb dX0_wordOf_1 (Or.inr (by decide +kernel)) (by decide) ?_
    refine lv_bipush (v := 7) hx hb dX0_wordOf_51 (by decide) ?_
    refine lv_iload_n hx hb dX0_wordOf_53 rfl (lv_at hl 1 rfl) ?_
    refine lv_imul hx hb dX0_wordOf_54 ?_
    refine kz_top (y := nI (7 * i)) (pk_mul 7 i) ?_
    refine lv_bipush (v := 15) hx hb dX0_wordOf_55 (by decide) ?_
    refine lv_iand hx hb dX0_wordOf_57 ?_
    refine kz_top (y := nI ((7 * i) % 16)) (pk_andN (by omega) 4 (by decide)) ?_
    exact W.iret (v := (nI ((7 * i) % 16))) hx hb hr (fun t ht hW => ⟨(nI ((7 * i) % 16)), rfl, rfl, ht⟩) (fun q h => by cases h) dX0_wordOf_58
set_option maxHeartbeats 4000000 in
set_option maxRecDepth 100000 in
/-- turnLeft -/
theorem c_turnLeft (l : Launch) (x y : Int32) : Met l yX0_turnLeft wsX0_turnLeft ({ frames := 0, cells := 0, slots := 0, locals := 0 }) (va_Pc [.int x, .int y] (fun _ => True)) (vp_Si (fun z9 => z9 = ks_rot x y)) 0 0 (fun _ => False) := by
  refine Met.ofW (cc := cX0_turnLeft) (maxL := 2) (ret := (some .int)) (by decide) rfl ?_
  intro p e s m args below meth c s₁ B hml hv
  obtain ⟨rfl, -⟩ := hv
  have hx := B.exec
  have hb := B.bytes
  have hr := B.returns
  have hlocks := B.notSynchronized
  have hl := lv_entry ([.int x, .int y]) (n := 2) (Nat.le_of_ble_eq_true rfl)
  rw [lg_entry_eq]
  generalize (lg_sl ([.int x, .int y]) ++ List.replicate (2 - (lg_sl ([.int x, .int y])).length) Slot.unset).toArray = ls at hl ⊢
  have hl : lv_has ls 2 [(0, .int x), (1, .int y)] := hl
  refine lv_iload_n hx hb dX0_turnLeft_0 rfl (lv_at hl 0 rfl) ?_
  refine lv_iload_n hx hb dX0_turnLeft_1 rfl (lv_at hl 1 rfl) ?_
  refine lv_ishl hx hb dX0_turnLeft_2 ?_
  refine lv_iload_n hx hb dX0_turnLeft_3 rfl (lv_at hl 0 rfl) ?_
  refine lv_bipush (v := 32) hx hb dX0_turnLeft_4 (by decide) ?_
  refine lv_iload_n hx hb dX0_turnLeft_6 rfl (lv_at hl 1 rfl) ?_
  refine lv_isub hx hb dX0_turnLeft_7 ?_
  refine lv_iushr (v := ks_us x (32 - y)) hx hb dX0_turnLeft_8 rfl ?_
  refine lv_ior hx hb dX0_turnLeft_9 ?_
  exact W.iret (v := ((x <<< (y &&& 31)) ||| (ks_us x (32 - y)))) hx hb hr (fun t ht hW => ⟨((x <<< (y &&& 31)) ||| (ks_us x (32 - y))), rfl, rfl, ht⟩) (fun q h => by cases h) dX0_turnLeft_10
