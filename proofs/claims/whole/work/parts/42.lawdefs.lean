/-- both sides hold the same: tape, key, bytes, sum; behind i calls -/
def ks_rel (i tn n : Nat) (hs : Int32) (v : ks_Q) (ft fk wd fs rt rk bl fr rs f : Nat → Int32) : Prop := tn ≤ 2000 ∧ (∀ j, j < tn → ft j &&& 255 = rt j &&& 255) ∧ (∀ j, j < 16 → fk j &&& 255 = rk j &&& 255) ∧ ks_inv f n wd v ∧ rf_inv f n bl fr ∧ n ≤ 4000 * i ∧ (hs = 0 ∨ (hs = 1 ∧ ∀ j, j < 16 → rs j = ks_us (fs (j / 4)) (nI (8 * (j % 4))) &&& 255))
/-- at the head of the law's loop -/
def lw_I (dC : Nat → ClassId) (dI : Nat → Nat → Nat) (s : State) (b x0 qt qk qs qw qm y0 ac au ab ae am ap ak al af an ar : Nat) (cT cK cW cM cJ : ClassId) (i : Nat) (ls : Array Slot) (H : Heap) (locs : List Loc) : Prop := ∃ (tn n : Nat) (hs : Int32) (v : ks_Q) (ft fk wd fs rt rk bl fr fn rs f : Nat → Int32), ks_rel i tn n hs v ft fk wd fs rt rk bl fr rs f ∧ lv_has ls 4 [(3, .int (nI (6 * i))), (2, .ref y0), (1, .ref x0), (0, .ref b)] ∧ va_P (dC, dI) vwCl [(x0, .inr (1, [.ref qt, .int (nI tn), .ref qk, .ref qs, .ref qm, .int hs])), (qt, .inl (cT, 2000, .inl ft)), (qk, .inl (cK, 16, .inl fk)), (qs, .inr (0, [.ref qw, .int (nI n), .int v.1, .int v.2.1, .int v.2.2.1, .int v.2.2.2])), (qw, .inl (cW, 16, .inl wd)), (qm, .inl (cM, 4, .inl fs)), (y0, .inr (2, [.ref ac, .ref au, .ref ab, .ref ae, .ref am, .ref ap, .int (nI tn), .ref ak, .ref al, .ref af, .ref an, .int (nI n), .ref ar, .int hs])), (ac, .inl (cJ, 64, .inl ks_k)), (au, .inl (cJ, 16, .inl ks_tt)), (ab, .inl (cJ, 4, .inl ks_begI)), (ae, .inl (cJ, 4, .inl ks_tmI)), (am, .inl (cJ, 4, .inl ks_moI)), (ap, .inl (cJ, 2000, .inl rt)), (ak, .inl (cJ, 16, .inl rk)), (al, .inl (cJ, 64, .inl bl)), (af, .inl (cJ, 4, .inl fr)), (an, .inl (cJ, 4, .inl fn)), (ar, .inl (cJ, 16, .inl rs))] H ∧ va_D (fun q : Nat => s.heap.size ≤ q) [(x0, .inr (1, [.ref qt, .int (nI tn), .ref qk, .ref qs, .ref qm, .int hs])), (qt, .inl (cT, 2000, .inl ft)), (qk, .inl (cK, 16, .inl fk)), (qs, .inr (0, [.ref qw, .int (nI n), .int v.1, .int v.2.1, .int v.2.2.1, .int v.2.2.2])), (qw, .inl (cW, 16, .inl wd)), (qm, .inl (cM, 4, .inl fs)), (y0, .inr (2, [.ref ac, .ref au, .ref ab, .ref ae, .ref am, .ref ap, .int (nI tn), .ref ak, .ref al, .ref af, .ref an, .int (nI n), .ref ar, .int hs])), (ac, .inl (cJ, 64, .inl ks_k)), (au, .inl (cJ, 16, .inl ks_tt)), (ab, .inl (cJ, 4, .inl ks_begI)), (ae, .inl (cJ, 4, .inl ks_tmI)), (am, .inl (cJ, 4, .inl ks_moI)), (ap, .inl (cJ, 2000, .inl rt)), (ak, .inl (cJ, 16, .inl rk)), (al, .inl (cJ, 64, .inl bl)), (af, .inl (cJ, 4, .inl fr)), (an, .inl (cJ, 4, .inl fn)), (ar, .inl (cJ, 16, .inl rs))] ∧ va_S (fun q : Nat => s.heap.size ≤ q) s.heap H locs
theorem ks_wl {ft rt : Nat → Int32} {k : Nat} (x : Int32) (h : ∀ j, j < k → ft j &&& 255 = rt j &&& 255) : ∀ j, j < k + 4 → ks_wr ft k x j &&& 255 = ks_ly rt k x j &&& 255 := by
  intro j hj
  unfold ks_wr ks_ly
  by_cases c3 : j = k + 3
  · subst c3
    rw [pk_us, pk_us, bp_b, ks_255, sb_shr0]
  rw [pk_un c3, pk_un c3]
  by_cases c2 : j = k + 2
  · subst c2
    rw [pk_us, pk_us, bp_b, ks_255]
    exact (rf_shift x (k := 1) (by decide)).symm
  rw [pk_un c2, pk_un c2]
  by_cases c1 : j = k + 1
  · subst c1
    rw [pk_us, pk_us, bp_b, ks_255]
    exact (rf_shift x (k := 2) (by decide)).symm
  rw [pk_un c1, pk_un c1]
  by_cases c0 : j = k
  · subst c0
    rw [pk_us, pk_us, bp_b, ks_255]
    exact (rf_shift x (k := 3) (by decide)).symm
  rw [pk_un c0, pk_un c0]
  exact h j (by omega)
theorem ks_kept {z fs : Nat → Int32} {q : ks_Q} (h : ks_4 z = q) {k : Nat} (hk : k < 4) : upd (upd (upd (upd fs 0 q.1) 1 q.2.1) 2 q.2.2.1) 3 q.2.2.2 k = z k := by
  subst h
  obtain rfl | rfl | rfl | rfl : k = 0 ∨ k = 1 ∨ k = 2 ∨ k = 3 := by omega
  · rfl
  · rfl
  · rfl
  · rfl
theorem lw_gt {L i : Nat} (hL : L ≤ 3072) (hi : i ≤ 600) : nI L - 6 < nI (6 * i) ↔ L < 6 * i + 6 := by
  have h1 := pk_sub_toInt (a := L) (b := 6) (by omega) (by omega)
  have h2 : (nI (6 * i)).toInt = ((6 * i : Nat) : Int) := nI_toInt (by omega)
  have h3 : (nI L - 6).toInt = (L : Int) - 6 := h1
  rw [Int32.lt_iff_toInt_lt, h3, h2]
  omega
section KL
variable {p : Program} {l : Launch} {e : Env} {R : Room} {s : State} {m : MethodId} {args : Array Value} {below : List Frame} {meth : Method} {c : Code} {H : Heap} {locs : List Loc} {cells slots : Nat} {Q : State → Prop}
variable {cc : ByteArray} {pc : Nat} {ls : Array Slot} {rest : List Value} {A : Nat → Prop} {H0 : Heap}
theorem kz_sld {j : Nat} (hexec : p.tables.exec = Jvm.exec) (hb : c.code = cc) {b L : Nat} {xs : Nat → Int32} (hX : va_X b L xs s H0) (hbl : b < H0.size) (hbA : ¬ A b) (hS : va_S A H0 H locs) (hj : j < L) (hL : L < 2 ^ 31) (hdg : decode cc pc = .ok (.iaload, 1))
    (kk : W p l e R s m args below meth c H locs cells slots Q (F0 m (pc + 1) ls (.int (xs j) :: rest))) : W p l e R s m args below meth c H locs cells slots Q (F0 m pc ls (.int (nI j) :: .ref b :: rest)) :=
  va_sld hexec hb hX hbl hbA hS (vp_in_nI hj hL) hdg (by rw [nI_clamp (Nat.lt_trans hj hL)]; exact kk)
end KL
