/-! bits: pasted from kit/laws/BITS.to-paste -/
def bt (x : Int32) (i : Nat) : Bool := x.toBitVec.getLsbD i
theorem b_ext {x y : Int32} (h : ∀ i, i < 32 → bt x i = bt y i) : x = y := Int32.toBitVec_inj.mp (BitVec.eq_of_getLsbD_eq (fun i hi => h i hi))
theorem b_or (x y : Int32) (i : Nat) : bt (x ||| y) i = (bt x i || bt y i) := by unfold bt; rw [Int32.toBitVec_or, BitVec.getLsbD_or]
theorem b_and (x y : Int32) (i : Nat) : bt (x &&& y) i = (bt x i && bt y i) := by unfold bt; rw [Int32.toBitVec_and, BitVec.getLsbD_and]
theorem b_xor (x y : Int32) (i : Nat) : bt (x ^^^ y) i = (bt x i ^^ bt y i) := by unfold bt; rw [Int32.toBitVec_xor, BitVec.getLsbD_xor]
theorem b_big {x : Int32} {i : Nat} (h : 32 ≤ i) : bt x i = false := BitVec.getLsbD_of_ge _ _ h
theorem b_255 (i : Nat) : bt 255 i = decide (i < 8) := by
  rcases Nat.lt_or_ge i 32 with h | h
  · exact (by decide +kernel : ∀ i, i < 32 → bt 255 i = decide (i < 8)) i h
  · rw [b_big h, decide_eq_false (by omega)]
theorem b_65535 (i : Nat) : bt 65535 i = decide (i < 16) := by
  rcases Nat.lt_or_ge i 32 with h | h
  · exact (by decide +kernel : ∀ i, i < 32 → bt 65535 i = decide (i < 16)) i h
  · rw [b_big h, decide_eq_false (by omega)]
theorem b_m1 : ∀ i, i < 32 → bt (-1) i = true := by decide +kernel
theorem b_0 (i : Nat) : bt 0 i = false := BitVec.getLsbD_zero
theorem s_l : ∀ n, n < 32 → ((nI n &&& 31).toBitVec.smod 32).toNat = n := by decide +kernel
theorem s_u : ∀ n, n < 32 → (((nI n).toUInt32 &&& Int32.toUInt32 31).toBitVec % 32).toNat = n := by decide +kernel
theorem b_shl (n : Nat) (hn : n < 32) (x : Int32) {i : Nat} (hi : i < 32) : bt (x <<< (nI n &&& 31)) i = (decide (n ≤ i) && bt x (i - n)) := by
  unfold bt
  rw [Int32.toBitVec_shiftLeft]
  show (x.toBitVec <<< ((nI n &&& 31).toBitVec.smod 32).toNat).getLsbD i = _
  rw [s_l n hn, BitVec.getLsbD_shiftLeft]
  rcases Nat.lt_or_ge i n with h | h
  · simp [h, Nat.not_le.mpr h]
  · simp [hi, h, Nat.not_lt.mpr h]
theorem b_ushr (n : Nat) (hn : n < 32) (x : Int32) (i : Nat) : bt ((x.toUInt32 >>> ((nI n).toUInt32 &&& Int32.toUInt32 31)).toInt32) i = bt x (n + i) := by
  show (x.toUInt32 >>> ((nI n).toUInt32 &&& Int32.toUInt32 31)).toBitVec.getLsbD i = x.toUInt32.toBitVec.getLsbD (n + i)
  rw [UInt32.toBitVec_shiftRight]
  show (x.toUInt32.toBitVec >>> (((nI n).toUInt32 &&& Int32.toUInt32 31).toBitVec % 32).toNat).getLsbD i = _
  rw [s_u n hn, BitVec.getLsbD_ushiftRight]
theorem b_sshr (n : Nat) (hn : n < 32) (x : Int32) {i : Nat} (hi : i < 32) : bt (x >>> (nI n &&& 31)) i = if n + i < 32 then bt x (n + i) else bt x 31 := by
  unfold bt
  rw [Int32.toBitVec_shiftRight]
  show (x.toBitVec.sshiftRight ((nI n &&& 31).toBitVec.smod 32).toNat).getLsbD i = _
  rw [s_l n hn, BitVec.getLsbD_sshiftRight, BitVec.msb_eq_getLsbD_last]
  simp [hi]
theorem b_shl8 (x : Int32) {i : Nat} (hi : i < 32) : bt (x <<< ((8 : Int32) &&& 31)) i = (decide (8 ≤ i) && bt x (i - 8)) := b_shl 8 (by omega) x hi
theorem b_shl16 (x : Int32) {i : Nat} (hi : i < 32) : bt (x <<< ((16 : Int32) &&& 31)) i = (decide (16 ≤ i) && bt x (i - 16)) := b_shl 16 (by omega) x hi
theorem b_shl24 (x : Int32) {i : Nat} (hi : i < 32) : bt (x <<< ((24 : Int32) &&& 31)) i = (decide (24 ≤ i) && bt x (i - 24)) := b_shl 24 (by omega) x hi
theorem b_sshr8 (x : Int32) {i : Nat} (hi : i < 32) : bt (x >>> ((8 : Int32) &&& 31)) i = if 8 + i < 32 then bt x (8 + i) else bt x 31 := b_sshr 8 (by omega) x hi
theorem bp_b (x : Int32) : x.toInt8.toInt32 &&& 255 = x &&& 255 := by
  apply Int32.toBitVec_inj.mp
  rw [Int32.toBitVec_and, Int32.toBitVec_and, Int8.toBitVec_toInt32, Int32.toBitVec_toInt8]
  apply BitVec.eq_of_getLsbD_eq
  intro i hi
  rw [BitVec.getLsbD_and, BitVec.getLsbD_and]
  have hm : ∀ i < 32, 8 ≤ i → (255 : Int32).toBitVec.getLsbD i = false := by decide
  rcases Nat.lt_or_ge i 8 with z | z
  · rw [BitVec.getLsbD_signExtend, BitVec.getLsbD_signExtend, if_pos z, if_pos hi]
    simp only [z, hi, decide_true, Bool.true_and]
  · rw [hm i hi z]; simp

theorem wb_tb (n : Nat) : (lN n).toBitVec = BitVec.ofNat 64 n := rfl
theorem wb_inj {a b : Int64} (h : a.toBitVec = b.toBitVec) : a = b := Int64.toBitVec_inj.mp h
theorem wb_tn {n : Nat} (h : n < 2 ^ 64) : (lN n).toBitVec.toNat = n := by rw [wb_tb, BitVec.toNat_ofNat, Nat.mod_eq_of_lt h]
theorem wb_of (x : Int64) : ∃ n, n < 2 ^ 64 ∧ x = lN n := ⟨x.toBitVec.toNat, x.toBitVec.isLt, wb_inj (by rw [wb_tb]; simp)⟩
theorem wb_of32 (x : Int32) : ∃ n, n < 2 ^ 32 ∧ x = nI n := ⟨x.toBitVec.toNat, x.toBitVec.isLt, Int32.toBitVec_inj.mp (by show _ = BitVec.ofNat 32 _; simp)⟩
theorem wb_c : ∀ k, k < 64 → ((nI k).toInt64 &&& 63) = lN k := by decide +kernel
theorem wb_cu : ∀ k, k < 64 → ((nI k).toInt64.toUInt64 &&& Int64.toUInt64 63) = UInt64.ofNat k := by decide +kernel
theorem wb_sm : ∀ k, k < 64 → (BitVec.ofNat 64 k).smod 64 = BitVec.ofNat 64 k := by decide +kernel
theorem wb_pw {a b : Nat} (h : a ≤ b) : 2 ^ b = 2 ^ a * 2 ^ (b - a) := by rw [← Nat.pow_add]; congr 1; omega
theorem wb_lt2 {a b : Nat} (h : a < b) : 2 ^ a < 2 ^ b := Nat.pow_lt_pow_right (by decide) h
theorem wb_mod (n : Nat) : lN n = lN (n % 2 ^ 64) := wb_inj (by rw [wb_tb, wb_tb]; apply BitVec.eq_of_toNat_eq; rw [BitVec.toNat_ofNat, BitVec.toNat_ofNat, Nat.mod_mod])
theorem wb_shr {n k : Nat} (hn : n < 2 ^ 64) (hk : k < 64) : ((lN n).toUInt64 >>> ((nI k).toInt64.toUInt64 &&& Int64.toUInt64 63)).toInt64 = lN (n / 2 ^ k) := by
  rw [wb_cu k hk]
  apply wb_inj
  apply BitVec.eq_of_toNat_eq
  show ((lN n).toUInt64 >>> UInt64.ofNat k).toNat = (BitVec.ofNat 64 _).toNat
  have h1 : (UInt64.ofNat k).toNat = k := by
    show (BitVec.ofNat 64 k).toNat = k
    rw [BitVec.toNat_ofNat, Nat.mod_eq_of_lt (by omega)]
  have h2 : (lN n).toUInt64.toNat = n := wb_tn hn
  rw [UInt64.toNat_shiftRight, h1, h2, Nat.mod_eq_of_lt hk, Nat.shiftRight_eq_div_pow, BitVec.toNat_ofNat, Nat.mod_eq_of_lt (Nat.lt_of_le_of_lt (Nat.div_le_self _ _) hn)]
/-! what a sum is, over numbers alone -/
abbrev ks_Q : Type := Int32 × Int32 × Int32 × Int32
def ks_us (x y : Int32) : Int32 := (x.toUInt32 >>> (y.toUInt32 &&& Int32.toUInt32 31)).toInt32
def ks_usl (x : Int64) (y : Int32) : Int64 := (x.toUInt64 >>> (y.toInt64.toUInt64 &&& Int64.toUInt64 63)).toInt64
def ks_rot (x y : Int32) : Int32 := (x <<< (y &&& 31)) ||| ks_us x (32 - y)
def ks_K : List Int32 := [(-680876936), (-389564586), 606105819, (-1044525330), (-176418897), 1200080426, (-1473231341), (-45705983), 1770035416, (-1958414417), (-42063), (-1990404162), 1804603682, (-40341101), (-1502002290), 1236535329, (-165796510), (-1069501632), 643717713, (-373897302), (-701558691), 38016083, (-660478335), (-405537848), 568446438, (-1019803690), (-187363961), 1163531501, (-1444681467), (-51403784), 1735328473, (-1926607734), (-378558), (-2022574463), 1839030562, (-35309556), (-1530992060), 1272893353, (-155497632), (-1094730640), 681279174, (-358537222), (-722521979), 76029189, (-640364487), (-421815835), 530742520, (-995338651), (-198630844), 1126891415, (-1416354905), (-57434055), 1700485571, (-1894986606), (-1051523), (-2054922799), 1873313359, (-30611744), (-1560198380), 1309151649, (-145523070), (-1120210379), 718787259, (-343485551)]
def ks_k (i : Nat) : Int32 := ks_K.getD i 0
def ks_TT : List Int32 := [7, 12, 17, 22, 5, 9, 14, 20, 4, 11, 16, 23, 6, 10, 15, 21]
def ks_tt (i : Nat) : Int32 := ks_TT.getD i 0
def ks_t (i : Nat) : Int32 := ks_tt (4 * (i / 16) + i % 4)
def ks_g (i : Nat) : Nat := match i / 16 with
  | 0 => i % 16
  | 1 => (5 * i + 1) % 16
  | 2 => (3 * i + 5) % 16
  | _ => (7 * i) % 16
theorem ks_g_lt (i : Nat) : ks_g i < 16 := by
  unfold ks_g
  split <;> exact Nat.mod_lt _ (by decide)
def ks_F (k : Nat) (q r s : Int32) : Int32 := match k with
  | 0 => (q &&& r) ||| ((q ^^^ (-1)) &&& s)
  | 1 => (s &&& q) ||| ((s ^^^ (-1)) &&& r)
  | 2 => (q ^^^ r) ^^^ s
  | _ => r ^^^ (q ||| (s ^^^ (-1)))
def ks_st (w : Nat → Int32) (i : Nat) (v : ks_Q) : ks_Q := (v.2.2.2, v.2.1 + ks_rot (((v.1 + ks_F (i / 16) v.2.1 v.2.2.1 v.2.2.2) + ks_k i) + w (ks_g i)) (ks_t i), v.2.1, v.2.2.1)
def ks_run (w : Nat → Int32) (v : ks_Q) : Nat → ks_Q
  | 0 => v
  | n + 1 => ks_st w n (ks_run w v n)
def ks_mix (w : Nat → Int32) (v : ks_Q) : ks_Q := (v.1 + (ks_run w v 64).1, v.2.1 + (ks_run w v 64).2.1, v.2.2.1 + (ks_run w v 64).2.2.1, v.2.2.2 + (ks_run w v 64).2.2.2)
theorem ks_run_congr {w w' : Nat → Int32} (h : ∀ j, j < 16 → w j = w' j) (v : ks_Q) : ∀ n, ks_run w v n = ks_run w' v n := by
  intro n
  induction n with
  | zero => rfl
  | succ n ih =>
    show ks_st w n (ks_run w v n) = ks_st w' n (ks_run w' v n)
    rw [ih]
    unfold ks_st
    rw [h _ (ks_g_lt n)]
theorem ks_mix_congr {w w' : Nat → Int32} (h : ∀ j, j < 16 → w j = w' j) (v : ks_Q) : ks_mix w v = ks_mix w' v := by
  unfold ks_mix
  rw [ks_run_congr h v 64]
/-- a byte pushed in from the top -/
def ks_push (w x : Int32) : Int32 := ks_us w 8 ||| (x <<< ((24 : Int32) &&& 31))
theorem ks_push_bt (w x : Int32) {i : Nat} (hi : i < 32) : bt (ks_push w x) i = if i < 24 then bt w (8 + i) else bt x (i - 24) := by
  unfold ks_push
  rw [b_or, b_shl24 x hi]
  have e : bt (ks_us w 8) i = bt w (8 + i) := b_ushr 8 (by omega) w i
  rw [e]
  by_cases h : i < 24
  · rw [if_pos h, decide_eq_false (by omega)]
    simp
  · rw [if_neg h, decide_eq_true (by omega), b_big (x := w) (i := 8 + i) (by omega)]
    simp
theorem ks_8_bt {x y : Int32} (h : x &&& 255 = y &&& 255) {i : Nat} (hi : i < 8) : bt x i = bt y i := by
  have e : bt (x &&& 255) i = bt (y &&& 255) i := by rw [h]
  rw [b_and, b_and, b_255, decide_eq_true hi] at e
  simpa using e
theorem ks_push_8 {x y : Int32} (w : Int32) (h : x &&& 255 = y &&& 255) : ks_push w x = ks_push w y := by
  apply b_ext
  intro i hi
  rw [ks_push_bt w x hi, ks_push_bt w y hi]
  by_cases c : i < 24
  · rw [if_pos c, if_pos c]
  · rw [if_neg c, if_neg c]
    exact ks_8_bt h (by omega)
def ks_p (f : Nat → Int32) (b : Nat) : Nat → Int32 → Int32
  | 0, o => o
  | t + 1, o => ks_push (ks_p f b t o) (f (b + t))
def ks_w (f : Nat → Int32) (b : Nat) : Int32 := ks_p f b 4 0
theorem ks_p4 (f : Nat → Int32) (b : Nat) (o : Int32) : ks_p f b 4 o = ks_w f b := by
  unfold ks_w
  apply b_ext
  intro i hi
  show bt (ks_push (ks_push (ks_push (ks_push o (f (b + 0))) (f (b + 1))) (f (b + 2))) (f (b + 3))) i = bt (ks_push (ks_push (ks_push (ks_push 0 (f (b + 0))) (f (b + 1))) (f (b + 2))) (f (b + 3))) i
  rw [ks_push_bt _ _ hi, ks_push_bt _ _ hi]
  by_cases c1 : i < 24
  · rw [if_pos c1, if_pos c1, ks_push_bt _ _ (show 8 + i < 32 by omega), ks_push_bt _ _ (show 8 + i < 32 by omega)]
    by_cases c2 : 8 + i < 24
    · rw [if_pos c2, if_pos c2, ks_push_bt _ _ (show 8 + (8 + i) < 32 by omega), ks_push_bt _ _ (show 8 + (8 + i) < 32 by omega)]
      by_cases c3 : 8 + (8 + i) < 24
      · rw [if_pos c3, if_pos c3, ks_push_bt _ _ (show 8 + (8 + (8 + i)) < 32 by omega), ks_push_bt _ _ (show 8 + (8 + (8 + i)) < 32 by omega), if_neg (by omega), if_neg (by omega)]
      · rw [if_neg c3, if_neg c3]
    · rw [if_neg c2, if_neg c2]
  · rw [if_neg c1, if_neg c1]
theorem ks_p_8 {f g : Nat → Int32} {b : Nat} (o : Int32) : ∀ t, (∀ j, j < t → f (b + j) &&& 255 = g (b + j) &&& 255) → ks_p f b t o = ks_p g b t o := by
  intro t
  induction t with
  | zero => intro _; rfl
  | succ t ih =>
    intro h
    show ks_push (ks_p f b t o) (f (b + t)) = ks_push (ks_p g b t o) (g (b + t))
    rw [ih (fun j hj => h j (by omega)), ks_push_8 _ (h t (by omega))]
theorem ks_w_8 {f g : Nat → Int32} {b : Nat} (h : ∀ j, j < 4 → f (b + j) &&& 255 = g (b + j) &&& 255) : ks_w f b = ks_w g b := ks_p_8 0 4 h
/-- the four numbers behind k blocks of 64 -/
def ks_ch (f : Nat → Int32) : Nat → ks_Q
  | 0 => (1732584193, -271733879, -1732584194, 271733878)
  | k + 1 => ks_mix (fun j => ks_w f (64 * k + 4 * j)) (ks_ch f k)
theorem ks_ch_8 {f g : Nat → Int32} : ∀ k, (∀ j, j < 64 * k → f j &&& 255 = g j &&& 255) → ks_ch f k = ks_ch g k := by
  intro k
  induction k with
  | zero => intro _; rfl
  | succ k ih =>
    intro h
    show ks_mix (fun j => ks_w f (64 * k + 4 * j)) (ks_ch f k) = ks_mix (fun j => ks_w g (64 * k + 4 * j)) (ks_ch g k)
    rw [ih (fun j hj => h j (by omega))]
    exact ks_mix_congr (fun j hj => ks_w_8 (fun i hi => h _ (by omega))) _
/-- the sixteen words and the four numbers behind n bytes -/
def ks_inv (f : Nat → Int32) (n : Nat) (wd : Nat → Int32) (v : ks_Q) : Prop :=
  v = ks_ch f (n / 64) ∧ (∀ j, 4 * (j + 1) ≤ n % 64 → wd j = ks_w f (64 * (n / 64) + 4 * j)) ∧ ∃ o, wd (n % 64 / 4) = ks_p f (64 * (n / 64) + 4 * (n % 64 / 4)) (n % 4) o
theorem ks_inv_8 {f g : Nat → Int32} {n : Nat} {wd : Nat → Int32} {v : ks_Q} (h : ks_inv f n wd v) (e : ∀ j, j < n → f j &&& 255 = g j &&& 255) : ks_inv g n wd v := by
  obtain ⟨h1, h2, o, h3⟩ := h
  refine ⟨?_, fun j hj => ?_, o, ?_⟩
  · rw [h1]
    exact ks_ch_8 _ (fun j hj => e j (by omega))
  · rw [h2 j hj]
    exact ks_w_8 (fun i hi => e _ (by omega))
  · rw [h3]
    exact ks_p_8 o _ (fun i hi => e _ (by omega))
theorem ks_inv_0 (f wd : Nat → Int32) : ks_inv f 0 wd (1732584193, -271733879, -1732584194, 271733878) := ⟨rfl, fun j hj => absurd hj (by omega), wd 0, rfl⟩
/-- all the words when a byte has come, and the block isn't full -/
theorem ks_words {f : Nat → Int32} {n : Nat} {wd : Nat → Int32} {v : ks_Q} {x : Int32} (h : ks_inv f n wd v) (hx : f n &&& 255 = x &&& 255) : (∀ j, 4 * (j + 1) ≤ n % 64 + 1 → upd wd (n % 64 / 4) (ks_push (wd (n % 64 / 4)) x) j = ks_w f (64 * (n / 64) + 4 * j)) ∧ ∃ o, upd wd (n % 64 / 4) (ks_push (wd (n % 64 / 4)) x) (n % 64 / 4) = ks_p f (64 * (n / 64) + 4 * (n % 64 / 4)) (n % 4 + 1) o := by
  obtain ⟨h1, h2, o, h3⟩ := h
  have hn : 64 * (n / 64) + 4 * (n % 64 / 4) + n % 4 = n := by omega
  have h4 : ks_push (wd (n % 64 / 4)) x = ks_p f (64 * (n / 64) + 4 * (n % 64 / 4)) (n % 4 + 1) o := by
    show _ = ks_push (ks_p f (64 * (n / 64) + 4 * (n % 64 / 4)) (n % 4) o) (f (64 * (n / 64) + 4 * (n % 64 / 4) + n % 4))
    rw [h3, hn, ks_push_8 _ hx]
  refine ⟨fun j hj => ?_, o, by rw [pk_us, h4]⟩
  by_cases c : j = n % 64 / 4
  · subst c
    rw [pk_us, h4, show n % 4 + 1 = 4 by omega, ks_p4]
  · rw [pk_un c]
    exact h2 j (by omega)
theorem ks_inv_put {f : Nat → Int32} {n : Nat} {wd : Nat → Int32} {v : ks_Q} {x : Int32} (h : ks_inv f n wd v) (hx : f n &&& 255 = x &&& 255) (hl : (n + 1) % 64 ≠ 0) : ks_inv f (n + 1) (upd wd (n % 64 / 4) (ks_push (wd (n % 64 / 4)) x)) v := by
  obtain ⟨w1, o, w2⟩ := ks_words h hx
  have a1 : (n + 1) / 64 = n / 64 := by omega
  have a2 : (n + 1) % 64 = n % 64 + 1 := by omega
  refine ⟨by rw [a1]; exact h.1, fun j hj => ?_, ?_⟩
  · rw [a1]
    exact w1 j (by omega)
  · rw [a1]
    by_cases c : n % 4 = 3
    · refine ⟨upd wd (n % 64 / 4) (ks_push (wd (n % 64 / 4)) x) ((n + 1) % 64 / 4), ?_⟩
      rw [show (n + 1) % 4 = 0 by omega]
      rfl
    · refine ⟨o, ?_⟩
      rw [show (n + 1) % 64 / 4 = n % 64 / 4 by omega, show (n + 1) % 4 = n % 4 + 1 by omega]
      exact w2
theorem ks_inv_full {f : Nat → Int32} {n : Nat} {wd : Nat → Int32} {v : ks_Q} {x : Int32} (h : ks_inv f n wd v) (hx : f n &&& 255 = x &&& 255) (hl : (n + 1) % 64 = 0) : ks_inv f (n + 1) (upd wd (n % 64 / 4) (ks_push (wd (n % 64 / 4)) x)) (ks_mix (upd wd (n % 64 / 4) (ks_push (wd (n % 64 / 4)) x)) v) := by
  obtain ⟨w1, o, w2⟩ := ks_words h hx
  have a1 : (n + 1) / 64 = n / 64 + 1 := by omega
  refine ⟨?_, fun j hj => absurd hj (by omega), _, by rw [hl, show (n + 1) % 4 = 0 by omega]; rfl⟩
  rw [a1, h.1]
  exact ks_mix_congr (fun j hj => w1 j (by omega)) _
/-- what is summed: the bytes, 128, zeros, the number of bits -/
def ks_end (n : Nat) : Nat := 64 * ((n + 8) / 64) + 56
def ks_pad (f : Nat → Int32) (n : Nat) : Nat → Int32 := fun j => if j < n then f j else if j = n then 128 else if j < ks_end n then 0 else nI (8 * n / 256 ^ (j - ks_end n) % 256)
def ks_sum (f : Nat → Int32) (n : Nat) : ks_Q := ks_ch (ks_pad f n) ((n + 8) / 64 + 1)
theorem ks_sum_8 {f g : Nat → Int32} {n : Nat} (e : ∀ j, j < n → f j &&& 255 = g j &&& 255) : ks_sum f n = ks_sum g n := by
  unfold ks_sum
  refine ks_ch_8 _ (fun j _ => ?_)
  unfold ks_pad
  by_cases c : j < n
  · rw [if_pos c, if_pos c]
    exact e j c
  · rw [if_neg c, if_neg c]
def ks_cat (f : Nat → Int32) (n : Nat) (g : Nat → Int32) : Nat → Int32 := fun j => if j < n then f j else g (j - n)
theorem ks_cat_lo {f g : Nat → Int32} {n j : Nat} (h : j < n) : ks_cat f n g j = f j := if_pos h
theorem ks_cat_hi {f g : Nat → Int32} {n j : Nat} : ks_cat f n g (n + j) = g j := by
  unfold ks_cat
  rw [if_neg (by omega), show n + j - n = j by omega]
