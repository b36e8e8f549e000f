
theorem pf_lI {a : Nat} (h : a < 2 ^ 63) : (lN a).toInt = (a : Int) := lg_ofNat_toInt h
theorem pf_shr {a d : Nat} {D : Int64} (hD : (D.toBitVec.smod 64).toNat = d) (h : a < 2 ^ 62) : lN a >>> D = lN (a / 2 ^ d) := by
  have hd : a / 2 ^ d ≤ a := Nat.div_le_self _ _
  apply Int64.toInt_inj.mp
  have e : (lN a >>> D).toInt = (lN a).toInt >>> d := by
    rw [← hD]
    exact BitVec.toInt_sshiftRight ..
  rw [e, Int.shiftRight_eq_div_pow, pf_lI (by omega), pf_lI (by omega)]
  rfl
def ks_ssl (x : Int64) (y : Int32) : Int64 := x >>> (y.toInt64 &&& 63)
def ks_up (T : Nat → Int32) (k : Nat) : Nat → Int32 := fun j => if j < k then T j else 0
theorem ks_up_0 (T : Nat → Int32) : ks_up T 0 = fun _ => 0 := by
  funext j
  exact if_neg (Nat.not_lt_zero j)
theorem ks_up_s (T : Nat → Int32) (k : Nat) {x : Int32} (hx : x = T k) : upd (ks_up T k) k x = ks_up T (k + 1) := by
  funext j
  unfold upd ks_up
  by_cases c : j = k
  · subst c
    rw [if_pos rfl, if_pos (Nat.lt_succ_self j), hx]
  · rw [if_neg c]
    by_cases d : j < k
    · rw [if_pos d, if_pos (by omega)]
    · rw [if_neg d, if_neg (by omega)]
theorem ks_up_n {T : Nat → Int32} {k : Nat} (h : ∀ j, k ≤ j → T j = 0) : ks_up T k = T := by
  funext j
  unfold ks_up
  by_cases c : j < k
  · rw [if_pos c]
  · rw [if_neg c, h j (by omega)]
theorem ks_getD0 {l : List Int32} {k j : Nat} (hl : l.length = k) (h : k ≤ j) : l.getD j 0 = 0 := by
  rw [List.getD_eq_getElem?_getD, List.getElem?_eq_none (by omega)]
  rfl
def ks_tm (j : Nat) : Nat := [1, 5, 3, 7].getD j 0
def ks_mo (j : Nat) : Nat := [0, 1, 5, 0].getD j 0
def ks_tmI (j : Nat) : Int32 := nI (ks_tm j)
def ks_moI (j : Nat) : Int32 := nI (ks_mo j)
def ks_begI (j : Nat) : Int32 := ([1732584193, -271733879, -1732584194, 271733878] : List Int32).getD j 0
theorem ks_nat0 {l : List Nat} {k j : Nat} (hl : l.length = k) (h : k ≤ j) : nI (l.getD j 0) = 0 := by
  rw [List.getD_eq_getElem?_getD, List.getElem?_eq_none (by omega)]
  exact nI_0
theorem ks_gg {i : Nat} (hi : i < 64) : (ks_tm (i / 16) * i + ks_mo (i / 16)) % 16 = ks_g i := by
  unfold ks_g
  have hk : i / 16 < 4 := by omega
  generalize i / 16 = k at hk ⊢
  obtain rfl | rfl | rfl | rfl : k = 0 ∨ k = 1 ∨ k = 2 ∨ k = 3 := by omega
  · show (1 * i + 0) % 16 = i % 16
    omega
  · rfl
  · rfl
  · show (7 * i + 0) % 16 = 7 * i % 16
    omega
def ks_4 (f : Nat → Int32) : ks_Q := (f 0, f 1, f 2, f 3)
def ks_lw (bl : Nat → Int32) (k : Nat) : Int32 := ((bl (4 * k) ||| (bl (4 * k + 1) <<< ((8 : Int32) &&& 31))) ||| (bl (4 * k + 2) <<< ((16 : Int32) &&& 31))) ||| (bl (4 * k + 3) <<< ((24 : Int32) &&& 31))
theorem ks_w_bt (f : Nat → Int32) (b : Nat) {i : Nat} (hi : i < 32) : bt (ks_w f b) i = if i < 8 then bt (f b) i else if i < 16 then bt (f (b + 1)) (i - 8) else if i < 24 then bt (f (b + 2)) (i - 16) else bt (f (b + 3)) (i - 24) := by
  show bt (ks_push (ks_push (ks_push (ks_push 0 (f b)) (f (b + 1))) (f (b + 2))) (f (b + 3))) i = _
  rw [ks_push_bt _ _ hi]
  by_cases c1 : i < 24
  · rw [if_pos c1, ks_push_bt _ _ (show 8 + i < 32 by omega)]
    by_cases c2 : 8 + i < 24
    · rw [if_pos c2, ks_push_bt _ _ (show 8 + (8 + i) < 32 by omega)]
      by_cases c3 : 8 + (8 + i) < 24
      · rw [if_pos c3, ks_push_bt _ _ (show 8 + (8 + (8 + i)) < 32 by omega), if_neg (by omega), if_pos (show i < 8 by omega), show 8 + (8 + (8 + i)) - 24 = i by omega]
      · rw [if_neg c3, if_neg (show ¬ i < 8 by omega), if_pos (show i < 16 by omega), show 8 + (8 + i) - 24 = i - 8 by omega]
    · rw [if_neg c2, if_neg (show ¬ i < 8 by omega), if_neg (show ¬ i < 16 by omega), if_pos c1, show 8 + i - 24 = i - 16 by omega]
  · rw [if_neg c1, if_neg (show ¬ i < 8 by omega), if_neg (show ¬ i < 16 by omega), if_neg c1]
theorem rf_word {bl f : Nat → Int32} {k b : Nat} (h : ∀ j, j < 4 → bl (4 * k + j) = f (b + j) &&& 255) : ks_lw bl k = ks_w f b := by
  apply b_ext
  intro i hi
  have h0 : bl (4 * k) = f b &&& 255 := h 0 (by decide)
  have h1 := h 1 (by decide)
  have h2 := h 2 (by decide)
  have h3 := h 3 (by decide)
  unfold ks_lw
  rw [b_or, b_or, b_or, b_shl8 _ hi, b_shl16 _ hi, b_shl24 _ hi, h0, h1, h2, h3, b_and, b_and, b_and, b_and, b_255, b_255, b_255, b_255, ks_w_bt f b hi]
  rcases (show i < 8 ∨ (8 ≤ i ∧ i < 16) ∨ (16 ≤ i ∧ i < 24) ∨ 24 ≤ i by omega) with c | ⟨c, d⟩ | ⟨c, d⟩ | c
  · rw [if_pos c, decide_eq_true c, decide_eq_false (show ¬ 8 ≤ i by omega), decide_eq_false (show ¬ 16 ≤ i by omega), decide_eq_false (show ¬ 24 ≤ i by omega)]
    simp
  · rw [if_neg (by omega), if_pos d, decide_eq_false (show ¬ i < 8 by omega), decide_eq_true (show 8 ≤ i by omega), decide_eq_true (show i - 8 < 8 by omega), decide_eq_false (show ¬ 16 ≤ i by omega), decide_eq_false (show ¬ 24 ≤ i by omega)]
    simp
  · rw [if_neg (by omega), if_neg (by omega), if_pos d, decide_eq_false (show ¬ i < 8 by omega), decide_eq_true (show 8 ≤ i by omega), decide_eq_false (show ¬ i - 8 < 8 by omega), decide_eq_true (show 16 ≤ i by omega), decide_eq_true (show i - 16 < 8 by omega), decide_eq_false (show ¬ 24 ≤ i by omega)]
    simp
  · rw [if_neg (by omega), if_neg (by omega), if_neg (by omega), decide_eq_false (show ¬ i < 8 by omega), decide_eq_true (show 8 ≤ i by omega), decide_eq_false (show ¬ i - 8 < 8 by omega), decide_eq_true (show 16 ≤ i by omega), decide_eq_false (show ¬ i - 16 < 8 by omega), decide_eq_true (show 24 ≤ i by omega), decide_eq_true (show i - 24 < 8 by omega)]
    simp
/-- the block and the four numbers behind n bytes, as the check keeps them -/
def rf_inv (f : Nat → Int32) (n : Nat) (bl fr : Nat → Int32) : Prop := ks_4 fr = ks_ch f (n / 64) ∧ ∀ j, j < n % 64 → bl j = f (64 * (n / 64) + j) &&& 255
theorem rf_inv_0 {fr : Nat → Int32} (f bl : Nat → Int32) (h : ∀ j, j < 4 → fr j = ks_begI j) : rf_inv f 0 bl fr := by
  refine ⟨?_, fun j hj => absurd hj (by omega)⟩
  unfold ks_4
  rw [h 0 (by decide), h 1 (by decide), h 2 (by decide), h 3 (by decide)]
  rfl
theorem rf_inv_8 {f k : Nat → Int32} {n : Nat} {bl fr : Nat → Int32} (h : rf_inv f n bl fr) (e : ∀ j, j < n → f j &&& 255 = k j &&& 255) : rf_inv k n bl fr := by
  refine ⟨?_, fun j hj => ?_⟩
  · rw [h.1]
    exact ks_ch_8 _ (fun j hj => e j (by omega))
  · rw [h.2 j hj]
    exact e _ (by omega)
theorem rf_put {f : Nat → Int32} {n : Nat} {bl fr : Nat → Int32} {x : Int32} (h : rf_inv f n bl fr) (hx : f n &&& 255 = x &&& 255) (hl : (n + 1) % 64 ≠ 0) : rf_inv f (n + 1) (upd bl (n % 64) (x &&& 255)) fr := by
  have a1 : (n + 1) / 64 = n / 64 := by omega
  refine ⟨by rw [a1]; exact h.1, fun j hj => ?_⟩
  rw [a1]
  by_cases c : j = n % 64
  · subst c
    rw [pk_us, ← hx, show 64 * (n / 64) + n % 64 = n by omega]
  · rw [pk_un c]
    exact h.2 j (by omega)
theorem rf_full {f : Nat → Int32} {n : Nat} {bl fr fr2 : Nat → Int32} {x : Int32} (h : rf_inv f n bl fr) (hx : f n &&& 255 = x &&& 255) (hl : (n + 1) % 64 = 0) (e : ks_4 fr2 = ks_mix (ks_lw (upd bl (n % 64) (x &&& 255))) (ks_4 fr)) : rf_inv f (n + 1) (upd bl (n % 64) (x &&& 255)) fr2 := by
  have a1 : (n + 1) / 64 = n / 64 + 1 := by omega
  refine ⟨?_, fun j hj => absurd hj (by omega)⟩
  rw [e, h.1, a1]
  refine ks_mix_congr (fun j hj => ?_) _
  apply rf_word
  intro i hi
  by_cases c : 4 * j + i = n % 64
  · rw [c, pk_us, ← hx, show 64 * (n / 64) + 4 * j + i = n by omega]
  · rw [pk_un c, h.2 _ (by omega), show 64 * (n / 64) + (4 * j + i) = 64 * (n / 64) + 4 * j + i by omega]
theorem ks_255 (x : Int32) : x &&& 255 &&& 255 = x &&& 255 := by
  apply b_ext
  intro i hi
  rw [b_and, b_and, b_255]
  cases bt x i <;> cases decide (i < 8) <;> rfl
theorem rf_len8 (f : Nat → Int32) {n i : Nat} (hn : 8 * n < 2 ^ 62) (hi : i < 8) : ks_pad f n (ks_end n + i) &&& 255 = ((ks_ssl (lN (8 * n)) (nI (8 * i))).toInt32 &&& 255) &&& 255 := by
  have h2 : ks_ssl (lN (8 * n)) (nI (8 * i)) = ks_usl (lN (8 * n)) (nI (8 * i)) := by
    have h3 := wb_shr (n := 8 * n) (k := 8 * i) (by omega) (by omega)
    have h4 := pf_shr (a := 8 * n) (d := 8 * i) (D := (nI (8 * i)).toInt64 &&& 63) (by rw [wb_c _ (by omega), wb_tb, wb_sm _ (by omega), BitVec.toNat_ofNat, Nat.mod_eq_of_lt (by omega)]) hn
    exact h4.trans h3.symm
  rw [ks_255, h2]
  exact ks_len8 f hn hi
/-- a byte of a number, by either shift -/
theorem rf_shift (x : Int32) {k : Nat} (hk : k < 4) : (x >>> (nI (8 * k) &&& 31)) &&& 255 = ks_us x (nI (8 * k)) &&& 255 := by
  apply b_ext
  intro i hi
  rw [b_and, b_and, b_255, b_sshr (8 * k) (by omega) x hi]
  have e : bt (ks_us x (nI (8 * k))) i = bt x (8 * k + i) := b_ushr (8 * k) (by omega) x i
  rw [e]
  by_cases c : i < 8
  · rw [if_pos (by omega)]
  · rw [decide_eq_false c]
    simp
section KR
variable {p : Program} {l : Launch} {e : Env} {R : Room} {s : State} {m : MethodId} {args : Array Value} {below : List Frame} {meth : Method} {c : Code} {H : Heap} {locs : List Loc} {cells slots : Nat} {Q : State → Prop}
variable {cc : ByteArray} {pc : Nat} {ls : Array Slot} {rest : List Value} {D : va_G} {cl : List vw_C} {A : Nat → Prop} {a : Nat} {tys : List (ClassId × FieldType)} {ws : va_W} {H0 : Heap}
theorem kz_astK {j : Nat} {x : Int32} {T : Nat → Int32} (hexec : p.tables.exec = Jvm.exec) (hb : c.code = cc) (hK : va_K D cl tys s) (hP : va_P D cl ws H) (hD : va_D A ws) (hS : va_S A H0 H locs) (q0 t0 : Nat) {cA : ClassId} {n : Nat} (ha : ws[q0]? = some (a, .inl (cA, n, .inl (ks_up T j)))) (ht : tys[t0]? = some (cA, .int)) (hj : j < n) (hn : n < 2 ^ 31) (hx : x = T j) (hdg : decode cc pc = .ok (.iastore, 1))
    (kk : ∀ (H1 : Heap) (locs1 : List Loc), va_P D cl (ws.set q0 (a, .inl (cA, n, .inl (ks_up T (j + 1))))) H1 → va_D A (ws.set q0 (a, .inl (cA, n, .inl (ks_up T (j + 1))))) → va_S A H0 H1 locs1 → W p l e R s m args below meth c H1 locs1 cells slots Q (F0 m (pc + 1) ls rest)) : W p l e R s m args below meth c H locs cells slots Q (F0 m pc ls (.int x :: .int (nI j) :: .ref a :: rest)) :=
  kz_iast hexec hb hK hP hD hS q0 t0 ha ht hj hn hdg (by rw [ks_up_s T j hx]; exact kk)
end KR
