/-- what a world is behind a method -/
abbrev kz_B (dC : Nat → ClassId) (dI : Nat → Nat → Nat) (tys : List (ClassId × FieldType)) (A : Nat → Prop) (ws : va_W) (t : State) : Prop := va_P (dC, dI) vwCl ws t.heap ∧ va_K (dC, dI) vwCl tys t ∧ va_D A ws
/-- the two tables, and the statics that hold them -/
def ks_tab (tS tT : Nat) (A : Nat → Prop) (U : State) (H : Heap) : Prop := va_Z RX0 "SINES" "[I" (.ref tS) A U H ∧ va_T .int tS 64 (fun j => .int (ks_k j)) A U H ∧ va_Z RX0 "TURNS" "[I" (.ref tT) A U H ∧ va_T .int tT 16 (fun j => .int (ks_tt j)) A U H
theorem ks_tab.moved {tS tT : Nat} {A : Nat → Prop} {u U : State} {H : Heap} (hvm : u.vm.Alike U.vm) (h : ks_tab tS tT A u H) : ks_tab tS tT A U H := ⟨h.1.moved hvm, h.2.1.moved hvm, h.2.2.1.moved hvm, h.2.2.2.moved hvm⟩
theorem ks_tab.kept {tS tT : Nat} {A : Nat → Prop} {U : State} {H H1 : Heap} (h : ks_tab tS tT A U H) (hq : ∀ a : Nat, a < H.size → ¬ A a → H1[a]? = H[a]?) : ks_tab tS tT A U H1 := ⟨h.1.kept hq, h.2.1.kept hq, h.2.2.1.kept hq, h.2.2.2.kept hq⟩
theorem ks_tab.narrow {tS tT : Nat} {A B : Nat → Prop} {U : State} {H : Heap} (h : ks_tab tS tT A U H) (hAB : ∀ q, B q → A q) : ks_tab tS tT B U H := ⟨h.1.narrow hAB, h.2.1.narrow hAB, h.2.2.1.narrow hAB, h.2.2.2.narrow hAB⟩
/-- the tables for a callee: at U, over the heap as it is there -/
theorem ks_tab.call {tS tT : Nat} {A B : Nat → Prop} {s U : State} {H : Heap} {locs : List Loc} (h : ks_tab tS tT A s s.heap) (hS : va_S A s.heap H locs) (hAB : ∀ q, B q → A q) (hU : U.heap = H) (hvm : s.vm.Alike U.vm) : ks_tab tS tT B U U.heap := by
  rw [hU]
  exact ((h.kept (fun a h1 h2 => hS.2.1 a h1 h2)).narrow hAB).moved hvm
/-- the links across the nest -/
def ks_nw (U : State) : Prop := va_Nw (.fieldLinkNest RX1 43 "KeySums$Summer" "count" "I" "KeySums") U ∧ va_Nw (.fieldLinkNest RX1 49 "KeySums$Summer" "a" "I" "KeySums") U ∧ va_Nw (.fieldLinkNest RX1 52 "KeySums$Summer" "b" "I" "KeySums") U ∧ va_Nw (.fieldLinkNest RX1 55 "KeySums$Summer" "c" "I" "KeySums") U ∧ va_Nw (.fieldLinkNest RX1 58 "KeySums$Summer" "d" "I" "KeySums") U ∧ va_Nw (.methodLinkNest RX1 22 yX0_init "KeySums") U ∧ va_Nw (.methodLinkNest RX1 39 yX0_take "KeySums") U ∧ va_Nw (.methodLinkNest RX1 46 yX0_close "KeySums") U ∧ va_Nw (.methodLinkNest RX1 61 yX0_restart "KeySums") U
theorem ks_nw.warm {s U : State} (hW : s.WarmedH U.vm) (h : ks_nw s) : ks_nw U := ⟨va_Nw.warmF hW h.1, va_Nw.warmF hW h.2.1, va_Nw.warmF hW h.2.2.1, va_Nw.warmF hW h.2.2.2.1, va_Nw.warmF hW h.2.2.2.2.1, va_Nw.warmM hW h.2.2.2.2.2.1, va_Nw.warmM hW h.2.2.2.2.2.2.1, va_Nw.warmM hW h.2.2.2.2.2.2.2.1, va_Nw.warmM hW h.2.2.2.2.2.2.2.2⟩
theorem ks_nw.same {u U : State} (e : u.vm = U.vm) (h : ks_nw u) : ks_nw U := ⟨va_Nw.same rfl e h.1, va_Nw.same rfl e h.2.1, va_Nw.same rfl e h.2.2.1, va_Nw.same rfl e h.2.2.2.1, va_Nw.same rfl e h.2.2.2.2.1, va_Nw.same rfl e h.2.2.2.2.2.1, va_Nw.same rfl e h.2.2.2.2.2.2.1, va_Nw.same rfl e h.2.2.2.2.2.2.2.1, va_Nw.same rfl e h.2.2.2.2.2.2.2.2⟩
