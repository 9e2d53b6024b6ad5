/-! STATICS AND CONSTANTS: addresses 61 (PITCH), 62 (HIGHEST_TRAIT), 63 + i (text i), 75 + i (its bytes) -/
def gb_len : List Nat := [5, 4, 3, 3, 5, 5, 4, 4, 3, 6, 6, 4]
def gb_byt : List (List Int32) := [[115, 111, 114, 114, 121], [104, 111, 108, 100], [97, 100, 100], [97, 115, 107], [112, 108, 97, 105, 110], [109, 97, 121, 111, 114], [109, 97, 105, 100], [100, 101, 97, 102], [116, 105, 110], [99, 111, 112, 112, 101, 114], [115, 105, 108, 118, 101, 114], [105, 114, 111, 110]]
def gb_tx0 : String := String.ofList ['s', 'o', 'r', 'r', 'y']
def gb_tx1 : String := String.ofList ['h', 'o', 'l', 'd']
def gb_tx2 : String := String.ofList ['a', 'd', 'd']
def gb_tx3 : String := String.ofList ['a', 's', 'k']
def gb_tx4 : String := String.ofList ['p', 'l', 'a', 'i', 'n']
def gb_tx5 : String := String.ofList ['m', 'a', 'y', 'o', 'r']
def gb_tx6 : String := String.ofList ['m', 'a', 'i', 'd']
def gb_tx7 : String := String.ofList ['d', 'e', 'a', 'f']
def gb_tx8 : String := String.ofList ['t', 'i', 'n']
def gb_tx9 : String := String.ofList ['c', 'o', 'p', 'p', 'e', 'r']
def gb_tx10 : String := String.ofList ['s', 'i', 'l', 'v', 'e', 'r']
def gb_tx11 : String := String.ofList ['i', 'r', 'o', 'n']
def gb_pit : Nat → Nat := fun j => [12, 6, 3].getD j 0
def gb_hig : Nat → Nat := fun j => [3, 9, 3, 3, 1, 9].getD j 0
def gb_Zs (ad : Nat → Nat) (A : Nat → Prop) (U : State) : Prop :=
  va_Z "GuiltBell" "PITCH" "[I" (.ref (ad 61)) A U U.heap ∧
  va_T .int (ad 61) 3 (fun j => .int (nI (gb_pit j))) A U U.heap ∧
  va_Z "GuiltBell" "HIGHEST_TRAIT" "[I" (.ref (ad 62)) A U U.heap ∧
  va_T .int (ad 62) 6 (fun j => .int (nI (gb_hig j))) A U U.heap ∧
  va_Z "java/lang/String" "COMPACT_STRINGS" "Z" (.int 1) A U U.heap ∧
  va_Zq "jdk/internal/util/Preconditions" "SIOOBE_FORMATTER" "Ljava/util/function/BiFunction;" A U U.heap ∧
  vk_S 12 gb_len gb_byt (fun i => ad (63 + i)) (fun i => ad (75 + i)) A U U.heap ∧
  vk_R "GuiltBell$Scribe" 78 gb_tx0 (ad 63) U ∧
  vk_R "GuiltBell$Scribe" 87 gb_tx1 (ad 64) U ∧
  vk_R "GuiltBell$Scribe" 92 gb_tx2 (ad 65) U ∧
  vk_R "GuiltBell$Scribe" 97 gb_tx3 (ad 66) U ∧
  vk_R "GuiltBell$Scribe" 150 gb_tx4 (ad 67) U ∧
  vk_R "GuiltBell$Scribe" 152 gb_tx5 (ad 68) U ∧
  vk_R "GuiltBell$Scribe" 154 gb_tx6 (ad 69) U ∧
  vk_R "GuiltBell$Scribe" 156 gb_tx7 (ad 70) U ∧
  vk_R "GuiltBell$Scribe" 158 gb_tx8 (ad 71) U ∧
  vk_R "GuiltBell$Scribe" 160 gb_tx9 (ad 72) U ∧
  vk_R "GuiltBell$Scribe" 162 gb_tx10 (ad 73) U ∧
  vk_R "GuiltBell$Scribe" 164 gb_tx11 (ad 74) U ∧
  va_Nw (.fieldLinkNest "GuiltBell$Melt" 52 "GuiltBell" "PITCH" "[I" "GuiltBell") U ∧
  va_Nw (.fieldLinkNest "GuiltBell$Scribe" 116 "GuiltBell" "HIGHEST_TRAIT" "[I" "GuiltBell") U ∧
  va_Nw (.methodLinkNest "GuiltBell$Guesses" 110 yX6_tapFactor "GuiltBell") U ∧
  va_Nw (.methodLinkNest "GuiltBell$Scribe" 137 yX6_has "GuiltBell") U ∧
  va_Nw (.methodLinkNest "GuiltBell$Scribe" 140 yX6_within "GuiltBell") U
theorem gb_Zs_ok (ad : Nat → Nat) : gb_ZOk (gb_Zs ad) := by
  refine ⟨fun A u U h hv hh => ?_, fun A B u U h hW hk hAB => ?_⟩
  · obtain ⟨h0, h1, h2, h3, h4, h5, h6, h7, h8, h9, h10, h11, h12, h13, h14, h15, h16, h17, h18, h19, h20, h21, h22, h23⟩ := h
    have ha : u.vm.Alike U.vm := by rw [hv]; exact Vm.Alike.refl _
    unfold gb_Zs
    rw [hh]
    exact ⟨va_Z.moved ha h0, va_T.moved ha h1, va_Z.moved ha h2, va_T.moved ha h3, va_Z.moved ha h4, va_Zq.moved ha h5, vk_S.moved ha h6, h7.same hv, h8.same hv, h9.same hv, h10.same hv, h11.same hv, h12.same hv, h13.same hv, h14.same hv, h15.same hv, h16.same hv, h17.same hv, h18.same hv, va_Nw.same rfl hv.symm h19, va_Nw.same rfl hv.symm h20, va_Nw.same rfl hv.symm h21, va_Nw.same rfl hv.symm h22, va_Nw.same rfl hv.symm h23⟩
  · obtain ⟨h0, h1, h2, h3, h4, h5, h6, h7, h8, h9, h10, h11, h12, h13, h14, h15, h16, h17, h18, h19, h20, h21, h22, h23⟩ := h
    have ha : u.vm.Alike U.vm := hW.alike
    exact ⟨va_Z.narrow (va_Z.kept (va_Z.moved ha h0) hk) hAB, va_T.narrow (va_T.kept (va_T.moved ha h1) hk) hAB, va_Z.narrow (va_Z.kept (va_Z.moved ha h2) hk) hAB, va_T.narrow (va_T.kept (va_T.moved ha h3) hk) hAB, va_Z.narrow (va_Z.kept (va_Z.moved ha h4) hk) hAB, va_Zq.narrow (va_Zq.kept (va_Zq.moved ha h5) hk) hAB, vk_S.narrow (vk_S.kept (vk_S.moved ha h6) hk) hAB, h7.warm hW, h8.warm hW, h9.warm hW, h10.warm hW, h11.warm hW, h12.warm hW, h13.warm hW, h14.warm hW, h15.warm hW, h16.warm hW, h17.warm hW, h18.warm hW, va_Nw.warmF hW h19, va_Nw.warmF hW h20, va_Nw.warmM hW h21, va_Nw.warmM hW h22, va_Nw.warmM hW h23⟩
def gW (G : gb_G) : Prop := gb_Gk G ∧ gb_ty G ∧ gb_N G = 61 ∧ ∀ (A : Nat → Prop) (U : State), gb_Z G A U → gb_Zs (gb_ad G) A U
theorem gz_PIT {G : gb_G} {X : gb_X} {cc : ByteArray} {nL d : Nat} {ret : Option FieldType} {own : String} (hW : gW G) (O : gb_Ok G X cc nL ret own d) : va_Z "GuiltBell" "PITCH" "[I" (.ref (gb_ad G 61)) (gb_A (gb_ad G) (gb_N G) X.2.2.2.1.heap.size) X.2.2.2.1 X.2.2.2.1.heap := by
  have h := hW.2.2.2 _ _ O.2.2.2.2.2.2.2.2.1
  exact h.1
theorem gz_PITt {G : gb_G} {X : gb_X} {cc : ByteArray} {nL d : Nat} {ret : Option FieldType} {own : String} (hW : gW G) (O : gb_Ok G X cc nL ret own d) : va_T .int (gb_ad G 61) 3 (fun j => .int (nI (gb_pit j))) (gb_A (gb_ad G) (gb_N G) X.2.2.2.1.heap.size) X.2.2.2.1 X.2.2.2.1.heap := by
  have h := hW.2.2.2 _ _ O.2.2.2.2.2.2.2.2.1
  exact h.2.1
theorem gz_HIG {G : gb_G} {X : gb_X} {cc : ByteArray} {nL d : Nat} {ret : Option FieldType} {own : String} (hW : gW G) (O : gb_Ok G X cc nL ret own d) : va_Z "GuiltBell" "HIGHEST_TRAIT" "[I" (.ref (gb_ad G 62)) (gb_A (gb_ad G) (gb_N G) X.2.2.2.1.heap.size) X.2.2.2.1 X.2.2.2.1.heap := by
  have h := hW.2.2.2 _ _ O.2.2.2.2.2.2.2.2.1
  exact h.2.2.1
theorem gz_HIGt {G : gb_G} {X : gb_X} {cc : ByteArray} {nL d : Nat} {ret : Option FieldType} {own : String} (hW : gW G) (O : gb_Ok G X cc nL ret own d) : va_T .int (gb_ad G 62) 6 (fun j => .int (nI (gb_hig j))) (gb_A (gb_ad G) (gb_N G) X.2.2.2.1.heap.size) X.2.2.2.1 X.2.2.2.1.heap := by
  have h := hW.2.2.2 _ _ O.2.2.2.2.2.2.2.2.1
  exact h.2.2.2.1
theorem gz_CMP {G : gb_G} {X : gb_X} {cc : ByteArray} {nL d : Nat} {ret : Option FieldType} {own : String} (hW : gW G) (O : gb_Ok G X cc nL ret own d) : va_Z "java/lang/String" "COMPACT_STRINGS" "Z" (.int 1) (gb_A (gb_ad G) (gb_N G) X.2.2.2.1.heap.size) X.2.2.2.1 X.2.2.2.1.heap := by
  have h := hW.2.2.2 _ _ O.2.2.2.2.2.2.2.2.1
  exact h.2.2.2.2.1
theorem gz_SIO {G : gb_G} {X : gb_X} {cc : ByteArray} {nL d : Nat} {ret : Option FieldType} {own : String} (hW : gW G) (O : gb_Ok G X cc nL ret own d) : va_Zq "jdk/internal/util/Preconditions" "SIOOBE_FORMATTER" "Ljava/util/function/BiFunction;" (gb_A (gb_ad G) (gb_N G) X.2.2.2.1.heap.size) X.2.2.2.1 X.2.2.2.1.heap := by
  have h := hW.2.2.2 _ _ O.2.2.2.2.2.2.2.2.1
  exact h.2.2.2.2.2.1
theorem gz_STR {G : gb_G} {X : gb_X} {cc : ByteArray} {nL d : Nat} {ret : Option FieldType} {own : String} (hW : gW G) (O : gb_Ok G X cc nL ret own d) : vk_S 12 gb_len gb_byt (fun i => gb_ad G (63 + i)) (fun i => gb_ad G (75 + i)) (gb_A (gb_ad G) (gb_N G) X.2.2.2.1.heap.size) X.2.2.2.1 X.2.2.2.1.heap := by
  have h := hW.2.2.2 _ _ O.2.2.2.2.2.2.2.2.1
  exact h.2.2.2.2.2.2.1
theorem gz_TX0 {G : gb_G} {X : gb_X} {cc : ByteArray} {nL d : Nat} {ret : Option FieldType} {own : String} (hW : gW G) (O : gb_Ok G X cc nL ret own d) : vk_R "GuiltBell$Scribe" 78 gb_tx0 (gb_ad G 63) X.2.2.2.1 := by
  have h := hW.2.2.2 _ _ O.2.2.2.2.2.2.2.2.1
  exact h.2.2.2.2.2.2.2.1
theorem gz_TX1 {G : gb_G} {X : gb_X} {cc : ByteArray} {nL d : Nat} {ret : Option FieldType} {own : String} (hW : gW G) (O : gb_Ok G X cc nL ret own d) : vk_R "GuiltBell$Scribe" 87 gb_tx1 (gb_ad G 64) X.2.2.2.1 := by
  have h := hW.2.2.2 _ _ O.2.2.2.2.2.2.2.2.1
  exact h.2.2.2.2.2.2.2.2.1
theorem gz_TX2 {G : gb_G} {X : gb_X} {cc : ByteArray} {nL d : Nat} {ret : Option FieldType} {own : String} (hW : gW G) (O : gb_Ok G X cc nL ret own d) : vk_R "GuiltBell$Scribe" 92 gb_tx2 (gb_ad G 65) X.2.2.2.1 := by
  have h := hW.2.2.2 _ _ O.2.2.2.2.2.2.2.2.1
  exact h.2.2.2.2.2.2.2.2.2.1
theorem gz_TX3 {G : gb_G} {X : gb_X} {cc : ByteArray} {nL d : Nat} {ret : Option FieldType} {own : String} (hW : gW G) (O : gb_Ok G X cc nL ret own d) : vk_R "GuiltBell$Scribe" 97 gb_tx3 (gb_ad G 66) X.2.2.2.1 := by
  have h := hW.2.2.2 _ _ O.2.2.2.2.2.2.2.2.1
  exact h.2.2.2.2.2.2.2.2.2.2.1
theorem gz_TX4 {G : gb_G} {X : gb_X} {cc : ByteArray} {nL d : Nat} {ret : Option FieldType} {own : String} (hW : gW G) (O : gb_Ok G X cc nL ret own d) : vk_R "GuiltBell$Scribe" 150 gb_tx4 (gb_ad G 67) X.2.2.2.1 := by
  have h := hW.2.2.2 _ _ O.2.2.2.2.2.2.2.2.1
  exact h.2.2.2.2.2.2.2.2.2.2.2.1
theorem gz_TX5 {G : gb_G} {X : gb_X} {cc : ByteArray} {nL d : Nat} {ret : Option FieldType} {own : String} (hW : gW G) (O : gb_Ok G X cc nL ret own d) : vk_R "GuiltBell$Scribe" 152 gb_tx5 (gb_ad G 68) X.2.2.2.1 := by
  have h := hW.2.2.2 _ _ O.2.2.2.2.2.2.2.2.1
  exact h.2.2.2.2.2.2.2.2.2.2.2.2.1
theorem gz_TX6 {G : gb_G} {X : gb_X} {cc : ByteArray} {nL d : Nat} {ret : Option FieldType} {own : String} (hW : gW G) (O : gb_Ok G X cc nL ret own d) : vk_R "GuiltBell$Scribe" 154 gb_tx6 (gb_ad G 69) X.2.2.2.1 := by
  have h := hW.2.2.2 _ _ O.2.2.2.2.2.2.2.2.1
  exact h.2.2.2.2.2.2.2.2.2.2.2.2.2.1
theorem gz_TX7 {G : gb_G} {X : gb_X} {cc : ByteArray} {nL d : Nat} {ret : Option FieldType} {own : String} (hW : gW G) (O : gb_Ok G X cc nL ret own d) : vk_R "GuiltBell$Scribe" 156 gb_tx7 (gb_ad G 70) X.2.2.2.1 := by
  have h := hW.2.2.2 _ _ O.2.2.2.2.2.2.2.2.1
  exact h.2.2.2.2.2.2.2.2.2.2.2.2.2.2.1
theorem gz_TX8 {G : gb_G} {X : gb_X} {cc : ByteArray} {nL d : Nat} {ret : Option FieldType} {own : String} (hW : gW G) (O : gb_Ok G X cc nL ret own d) : vk_R "GuiltBell$Scribe" 158 gb_tx8 (gb_ad G 71) X.2.2.2.1 := by
  have h := hW.2.2.2 _ _ O.2.2.2.2.2.2.2.2.1
  exact h.2.2.2.2.2.2.2.2.2.2.2.2.2.2.2.1
theorem gz_TX9 {G : gb_G} {X : gb_X} {cc : ByteArray} {nL d : Nat} {ret : Option FieldType} {own : String} (hW : gW G) (O : gb_Ok G X cc nL ret own d) : vk_R "GuiltBell$Scribe" 160 gb_tx9 (gb_ad G 72) X.2.2.2.1 := by
  have h := hW.2.2.2 _ _ O.2.2.2.2.2.2.2.2.1
  exact h.2.2.2.2.2.2.2.2.2.2.2.2.2.2.2.2.1
theorem gz_TX10 {G : gb_G} {X : gb_X} {cc : ByteArray} {nL d : Nat} {ret : Option FieldType} {own : String} (hW : gW G) (O : gb_Ok G X cc nL ret own d) : vk_R "GuiltBell$Scribe" 162 gb_tx10 (gb_ad G 73) X.2.2.2.1 := by
  have h := hW.2.2.2 _ _ O.2.2.2.2.2.2.2.2.1
  exact h.2.2.2.2.2.2.2.2.2.2.2.2.2.2.2.2.2.1
theorem gz_TX11 {G : gb_G} {X : gb_X} {cc : ByteArray} {nL d : Nat} {ret : Option FieldType} {own : String} (hW : gW G) (O : gb_Ok G X cc nL ret own d) : vk_R "GuiltBell$Scribe" 164 gb_tx11 (gb_ad G 74) X.2.2.2.1 := by
  have h := hW.2.2.2 _ _ O.2.2.2.2.2.2.2.2.1
  exact h.2.2.2.2.2.2.2.2.2.2.2.2.2.2.2.2.2.2.1
theorem gz_NW0 {G : gb_G} {X : gb_X} {cc : ByteArray} {nL d : Nat} {ret : Option FieldType} {own : String} (hW : gW G) (O : gb_Ok G X cc nL ret own d) : va_Nw (.fieldLinkNest "GuiltBell$Melt" 52 "GuiltBell" "PITCH" "[I" "GuiltBell") X.2.2.2.1 := by
  have h := hW.2.2.2 _ _ O.2.2.2.2.2.2.2.2.1
  exact h.2.2.2.2.2.2.2.2.2.2.2.2.2.2.2.2.2.2.2.1
theorem gz_NW1 {G : gb_G} {X : gb_X} {cc : ByteArray} {nL d : Nat} {ret : Option FieldType} {own : String} (hW : gW G) (O : gb_Ok G X cc nL ret own d) : va_Nw (.fieldLinkNest "GuiltBell$Scribe" 116 "GuiltBell" "HIGHEST_TRAIT" "[I" "GuiltBell") X.2.2.2.1 := by
  have h := hW.2.2.2 _ _ O.2.2.2.2.2.2.2.2.1
  exact h.2.2.2.2.2.2.2.2.2.2.2.2.2.2.2.2.2.2.2.2.1
theorem gz_NW2 {G : gb_G} {X : gb_X} {cc : ByteArray} {nL d : Nat} {ret : Option FieldType} {own : String} (hW : gW G) (O : gb_Ok G X cc nL ret own d) : va_Nw (.methodLinkNest "GuiltBell$Guesses" 110 yX6_tapFactor "GuiltBell") X.2.2.2.1 := by
  have h := hW.2.2.2 _ _ O.2.2.2.2.2.2.2.2.1
  exact h.2.2.2.2.2.2.2.2.2.2.2.2.2.2.2.2.2.2.2.2.2.1
theorem gz_NW3 {G : gb_G} {X : gb_X} {cc : ByteArray} {nL d : Nat} {ret : Option FieldType} {own : String} (hW : gW G) (O : gb_Ok G X cc nL ret own d) : va_Nw (.methodLinkNest "GuiltBell$Scribe" 137 yX6_has "GuiltBell") X.2.2.2.1 := by
  have h := hW.2.2.2 _ _ O.2.2.2.2.2.2.2.2.1
  exact h.2.2.2.2.2.2.2.2.2.2.2.2.2.2.2.2.2.2.2.2.2.2.1
theorem gz_NW4 {G : gb_G} {X : gb_X} {cc : ByteArray} {nL d : Nat} {ret : Option FieldType} {own : String} (hW : gW G) (O : gb_Ok G X cc nL ret own d) : va_Nw (.methodLinkNest "GuiltBell$Scribe" 140 yX6_within "GuiltBell") X.2.2.2.1 := by
  have h := hW.2.2.2 _ _ O.2.2.2.2.2.2.2.2.1
  exact h.2.2.2.2.2.2.2.2.2.2.2.2.2.2.2.2.2.2.2.2.2.2.2
/-! WORLDS -/
/-- a town: traits (g * 6 + what), added, worn, how many givers, asked, least, struck -/
abbrev Tw : Type := (Nat → Nat) × (Nat → Nat) × (Nat → Nat) × Nat × Nat × Nat × Nat
def Tob (G : gb_G) (b : Nat) (T : Tw) : va_E := .inr (5, [.ref (gb_ad G (b + 1)), .ref (gb_ad G (b + 2)), .ref (gb_ad G (b + 3)), .int (nI T.2.2.2.1), .int (nI T.2.2.2.2.1), .int (nI T.2.2.2.2.2.1), .int (nI T.2.2.2.2.2.2)])
def isT (G : gb_G) (M : gb_M) (b : Nat) (T : Tw) : Prop := M b = Tob G b T ∧ M (b + 1) = IN G 24 T.1 ∧ M (b + 2) = IN G 3 T.2.1 ∧ M (b + 3) = IN G 3 T.2.2.1
/-- same outside lo .. hi -/
def sm (M M' : gb_M) (lo hi : Nat) : Prop := ∀ k : Nat, (k < lo ∨ hi < k) → M' k = M k
theorem sm.rf {M : gb_M} {lo hi : Nat} : sm M M lo hi := fun _ _ => rfl
theorem sm.tr {M M1 M2 : gb_M} {lo hi : Nat} (h1 : sm M M1 lo hi) (h2 : sm M1 M2 lo hi) : sm M M2 lo hi := fun k hk => (h2 k hk).trans (h1 k hk)
theorem sm.mono {M M' : gb_M} {lo hi lo' hi' : Nat} (h : sm M M' lo hi) (h1 : lo' ≤ lo) (h2 : hi ≤ hi') : sm M M' lo' hi' := fun k hk => h k (by omega)
theorem sm.up {M M' : gb_M} {lo hi a : Nat} {e : va_E} (h : sm M M' lo hi) (h1 : lo ≤ a) (h2 : a ≤ hi) : sm M (va_up M' a e) lo hi := fun k hk => (va_up_ne _ _ (by omega)).trans (h k hk)
/-- same outside two stretches -/
def sm2 (M M' : gb_M) (lo hi lo2 hi2 : Nat) : Prop := ∀ k : Nat, (k < lo ∨ hi < k) → (k < lo2 ∨ hi2 < k) → M' k = M k
theorem sm2.rf {M : gb_M} {a b c d : Nat} : sm2 M M a b c d := fun _ _ _ => rfl
theorem sm2.tr {M M1 M2 : gb_M} {a b c d : Nat} (h1 : sm2 M M1 a b c d) (h2 : sm2 M1 M2 a b c d) : sm2 M M2 a b c d := fun k hk hj => (h2 k hk hj).trans (h1 k hk hj)
theorem sm.l {M M' : gb_M} {a b c d : Nat} (h : sm M M' a b) : sm2 M M' a b c d := fun k hk _ => h k hk
theorem sm.r {M M' : gb_M} {a b c d : Nat} (h : sm M M' c d) : sm2 M M' a b c d := fun k _ hk => h k hk
theorem sm2.up {M M' : gb_M} {lo hi c d a : Nat} {e : va_E} (h : sm2 M M' lo hi c d) (h1 : (lo ≤ a ∧ a ≤ hi) ∨ (c ≤ a ∧ a ≤ d)) : sm2 M (va_up M' a e) lo hi c d := fun k hk hj => (va_up_ne _ _ (by omega)).trans (h k hk hj)
theorem sm2.one {M M' : gb_M} {a b c d lo hi : Nat} (h : sm2 M M' a b c d) (q : lo ≤ a ∧ lo ≤ c ∧ b ≤ hi ∧ d ≤ hi) : sm M M' lo hi := fun k hk => h k (by omega) (by omega)
theorem isT.keep {G : gb_G} {M M' : gb_M} {b lo hi : Nat} {T : Tw} (h : isT G M b T) (s : sm M M' lo hi) (hk : b + 3 < lo ∨ hi < b) : isT G M' b T := ⟨(s b (by omega)).trans h.1, (s (b + 1) (by omega)).trans h.2.1, (s (b + 2) (by omega)).trans h.2.2.1, (s (b + 3) (by omega)).trans h.2.2.2⟩
/-- a town as the document has it -/
def okT (T : Tw) : Prop := T.2.2.2.1 ≤ 4 ∧ (∀ g, g < 4 → T.1 (g * 6 + 0) ≤ 3 ∧ T.1 (g * 6 + 1) ≤ 9 ∧ T.1 (g * 6 + 2) ≤ 3 ∧ T.1 (g * 6 + 3) ≤ 3 ∧ T.1 (g * 6 + 4) ≤ 1 ∧ T.1 (g * 6 + 5) ≤ 9) ∧ (∀ m, m < 3 → T.2.1 m ≤ 40 ∧ T.2.2.1 m ≤ T.2.2.2.2.2.2) ∧ T.2.2.2.2.1 ≤ 12 ∧ T.2.2.2.2.2.1 ≤ 10 ∧ T.2.2.2.2.2.2 ≤ 2000
