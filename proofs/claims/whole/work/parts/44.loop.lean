set_option maxHeartbeats 4000000 in
set_option maxRecDepth 100000 in
/-- the loop, from its head at 0 calls -/
theorem law_loop {p : Program} {l : Launch} {e : Env} {s : State} {m : MethodId} {below : List Frame} {meth : Method} {c : Code} {dC : Nat → ClassId} {dI : Nat → Nat → Nat} {b L : Nat} {xs : Nat → Int32} (hL : L ≤ 3072) (C0 : lw_At p s m meth c b L xs) {tS tT x0 qt qk qs qw qm y0 ac au ab ae am ap ak al af an ar : Nat} {cT cK cW cM cJ : ClassId} (hT : ks_tab tS tT (fun q : Nat => s.heap.size ≤ q) s s.heap) (hN : ks_nw s) (hK : va_K (dC, dI) vwCl [(cT, .byte), (cK, .byte), (cW, .int), (cM, .int), (cJ, .int)] s) {H : Heap} {locs : List Loc} {ls : Array Slot} (h0 : lw_I dC dI s b x0 qt qk qs qw qm y0 ac au ab ae am ap ak al af an ar cT cK cW cM cJ 0 ls H locs) : W p l e room_1 s m #[Value.ref b] below meth c H locs 18 4258 (lw_Z below #[Value.ref b] s) (F0 m 18 ls []) := by
  have C1 := C0
  obtain ⟨hx, hb, hret, hml, hown, hts, hX, hbl, hlocks, hgv⟩ := C0
  have hown : s.vm.findClass RL = some m.cls := hown
  have hA : ∀ q : Nat, s.heap.size ≤ q → (fun q : Nat => s.heap.size ≤ q) q := fun _ h => h
  have hbA : ¬ (fun q : Nat => s.heap.size ≤ q) b := Nat.not_le.mpr hbl
  refine kz_loop (σ := Unit) (fun i _ ls H locs => lw_I dC dI s b x0 qt qk qs qw qm y0 ac au ab ae am ap ak al af an ar cT cK cW cM cJ i ls H locs) (L / 6) ?_ ?_ 0 () ls _ _ (Nat.zero_le _) h0
  · skip
    intro i x ls H locs hlt hI ih
    have hi : 6 * i + 6 ≤ L := by omega
    obtain ⟨tn, n, hs, v, ft, fk, wd, fs, rt, rk, bl, fr, fn, rs, f, hr, hl, hP, hD, hS⟩ := hI
    refine lv_iload_n hx hb dL_law_18 rfl (lv_at hl 0 rfl) ?_
    refine lv_aload_n hx hb dL_law_19 rfl (lv_at hl 3 rfl) ?_
    refine va_slen hx hb hX hbl hbA hS dL_law_20 ?_
    refine lv_bipush (v := 6) hx hb dL_law_21 (by decide) ?_
    refine lv_isub hx hb dL_law_23 ?_
    refine lv_icmp_gt (tgt := 289) hx hb dL_law_24 (by decide) (fun hc => ?_) (fun hc => ?_)
    · skip
      exact absurd ((lw_gt hL (by omega)).mp hc) (by omega)
    · skip
      refine lv_aload_n hx hb dL_law_27 rfl (lv_at hl 3 rfl) ?_
      refine lv_iload_n hx hb dL_law_28 rfl (lv_at hl 0 rfl) ?_
      refine kz_sld (j := (6 * i)) hx hb hX hbl hbA hS (show (6 * i) < L by omega) (by omega) dL_law_29 ?_
      refine lv_bipush (v := 7) hx hb dL_law_30 (by decide) ?_
      obtain ⟨k, hk8, hke⟩ := pk_andE (xs (6 * i)) (m := 7) 3 (by decide)
      refine lv_iand hx hb dL_law_32 ?_
      refine kz_top (y := nI k) hke ?_
      have hk8 : k < 8 := hk8
      obtain rfl | rfl | rfl | rfl | rfl | rfl | rfl | rfl : k = 0 ∨ k = 1 ∨ k = 2 ∨ k = 3 ∨ k = 4 ∨ k = 5 ∨ k = 6 ∨ k = 7 := by omega
      · skip
        refine lv_tableIn (off := 43) (tgt := 76) hx hb dL_law_33 (by decide +kernel) (by decide +kernel) (by decide +kernel) (by decide) ?_
        exact law_op0 hL C1 hT hN hK hi (fun ls H locs h => ih () ls H locs h) hr hl hP hD hS
      · skip
        refine lv_tableIn (off := 106) (tgt := 139) hx hb dL_law_33 (by decide +kernel) (by decide +kernel) (by decide +kernel) (by decide) ?_
        exact law_op1 hL C1 hT hN hK hi (fun ls H locs h => ih () ls H locs h) hr hl hP hD hS
      · skip
        refine lv_tableIn (off := 129) (tgt := 162) hx hb dL_law_33 (by decide +kernel) (by decide +kernel) (by decide +kernel) (by decide) ?_
        exact law_op2 hL C1 hT hN hK hi (fun ls H locs h => ih () ls H locs h) hr hl hP hD hS
      · skip
        refine lv_tableIn (off := 142) (tgt := 175) hx hb dL_law_33 (by decide +kernel) (by decide +kernel) (by decide +kernel) (by decide) ?_
        exact law_op3 hL C1 hT hN hK hi (fun ls H locs h => ih () ls H locs h) hr hl hP hD hS
      · skip
        refine lv_tableIn (off := 175) (tgt := 208) hx hb dL_law_33 (by decide +kernel) (by decide +kernel) (by decide +kernel) (by decide) ?_
        exact law_op4 hL C1 hT hN hK hi (fun ls H locs h => ih () ls H locs h) hr hl hP hD hS
      · skip
        refine lv_tableIn (off := 188) (tgt := 221) hx hb dL_law_33 (by decide +kernel) (by decide +kernel) (by decide +kernel) (by decide) ?_
        exact law_op5 hL C1 hT hN hK hi (fun ls H locs h => ih () ls H locs h) hr hl hP hD hS
      · skip
        refine lv_tableIn (off := 227) (tgt := 260) hx hb dL_law_33 (by decide +kernel) (by decide +kernel) (by decide +kernel) (by decide) ?_
        exact law_op6 hL C1 hT hN hK hi (fun ls H locs h => ih () ls H locs h) hr hl hP hD hS
      · skip
        refine lv_tableOut (tgt := 283) hx hb dL_law_33 (Or.inr (by decide +kernel)) (by decide) ?_
        obtain ⟨r1, r2, r3, r4, r5, r6, r7⟩ := hr
        have K := fun (ls : Array Slot) (H : Heap) (locs : List Loc) h => ih () ls H locs h
        refine lv_iinc (v := nI (6 * (i + 1))) (lv' := [(3, .int (nI (6 * (i + 1)))), (2, .ref y0), (1, .ref x0), (0, .ref b)]) hx hb dL_law_283 hl (k := 0) rfl (by rw [Nat.mul_succ]; exact nI_add (6 * i) 6) (by decide) rfl (fun ls hl => ?_)
        refine lv_goto (tgt := 18) hx hb dL_law_286 (by decide) ?_
        exact K ls H locs ⟨tn, n, hs, v, ft, fk, wd, fs, rt, rk, bl, fr, fn, rs, f, ⟨r1, r2, r3, r4, r5, by omega, r7⟩, lv_sub hl [0, 1, 2, 3] rfl, hP, hD, hS⟩
  · skip
    intro x ls H locs hI
    obtain ⟨i, hie⟩ : ∃ i, i = L / 6 := ⟨_, rfl⟩
    rw [← hie] at hI
    obtain ⟨tn, n, hs, v, ft, fk, wd, fs, rt, rk, bl, fr, fn, rs, f, hr, hl, hP, hD, hS⟩ := hI
    refine lv_iload_n hx hb dL_law_18 rfl (lv_at hl 0 rfl) ?_
    refine lv_aload_n hx hb dL_law_19 rfl (lv_at hl 3 rfl) ?_
    refine va_slen hx hb hX hbl hbA hS dL_law_20 ?_
    refine lv_bipush (v := 6) hx hb dL_law_21 (by decide) ?_
    refine lv_isub hx hb dL_law_23 ?_
    refine lv_icmp_gt (tgt := 289) hx hb dL_law_24 (by decide) (fun hc => ?_) (fun hc => ?_)
    · skip
      refine lv_iconst (v := 1) hx hb dL_law_289 (by decide) ?_
      refine va_forget (fun q hq => hS.2.2 q hq) ?_
      exact lw_ret hx hb hret hlocks dL_law_290
    · skip
      exact absurd ((lw_gt hL (by omega)).mpr (by omega)) hc
