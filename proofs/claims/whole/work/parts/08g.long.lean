/-! LONGS THAT ARE NATURALS; WHAT THE CALLS ANSWER, 7: mean, luck -/
section GBK
variable {G : gb_G} {X : gb_X} {cc : ByteArray} {nL : Nat} {ret : Option FieldType} {own : String} {d : Nat} {Q : Option Value → gb_M → Prop} {pc n : Nat} {lv lv' : List (Nat × Value)} {st : List Value} {M : gb_M}
theorem w_topl {x : Int64} (y : Int64) (h : x = y) (k : Wm G X nL Q pc lv (.long y :: st) M) : Wm G X nL Q pc lv (.long x :: st) M := by
  rw [h]; exact k
theorem w_laddK (O : gb_Ok G X cc nL ret own d) {x y : Nat} (hd : decode cc pc = .ok (.ladd, 1)) (hn : pc + 1 = n) (k : Wm G X nL Q n lv (.long (lN (x + y)) :: st) M) : Wm G X nL Q pc lv (.long (lN y) :: .long (lN x) :: st) M := w_ladd O hd hn (w_topl _ (lN_add x y) k)
theorem w_lmulK (O : gb_Ok G X cc nL ret own d) {x y : Nat} (hd : decode cc pc = .ok (.lmul, 1)) (hn : pc + 1 = n) (k : Wm G X nL Q n lv (.long (lN (x * y)) :: st) M) : Wm G X nL Q pc lv (.long (lN y) :: .long (lN x) :: st) M := w_lmul O hd hn (w_topl _ (lN_mul x y) k)
theorem w_ldivK (O : gb_Ok G X cc nL ret own d) {x y : Nat} (hd : decode cc pc = .ok (.ldiv, 1)) (h1 : x < 2 ^ 63) (h2 : 0 < y) (h3 : y < 2 ^ 63) (hn : pc + 1 = n) (k : Wm G X nL Q n lv (.long (lN (x / y)) :: st) M) : Wm G X nL Q pc lv (.long (lN y) :: .long (lN x) :: st) M := w_ldiv O hd (fun e => by rw [show (0 : Int64) = lN 0 from rfl, pk_lEQ h3 (by decide)] at e; omega) hn (w_topl _ (pk_lDiv h1 h2 h3) k)
theorem w_lremK (O : gb_Ok G X cc nL ret own d) {x y : Nat} (hd : decode cc pc = .ok (.lrem, 1)) (h1 : x < 2 ^ 63) (h2 : 0 < y) (h3 : y < 2 ^ 63) (hn : pc + 1 = n) (k : Wm G X nL Q n lv (.long (lN (x % y)) :: st) M) : Wm G X nL Q pc lv (.long (lN y) :: .long (lN x) :: st) M := w_lrem O hd (fun e => by rw [show (0 : Int64) = lN 0 from rfl, pk_lEQ h3 (by decide)] at e; omega) hn (w_topl _ (pk_lRem h1 h2 h3) k)
theorem w_i2lK (O : gb_Ok G X cc nL ret own d) {x : Nat} (hd : decode cc pc = .ok (.i2l, 1)) (h1 : x < 2 ^ 31) (hn : pc + 1 = n) (k : Wm G X nL Q n lv (.long (lN x) :: st) M) : Wm G X nL Q pc lv (.int (nI x) :: st) M := w_i2l O hd hn (w_topl _ (nI_l h1) k)
theorem uy_max_long : Cond.static Lib.MathLoose.max_long.x ∈ gU ∧ Cond.code Lib.MathLoose.max_long.x Lib.MathLoose.max_long.code 4 (some .long) ∈ gU := ⟨gU_3 159 (by decide +kernel) (by decide +kernel), gU_3 160 (by decide +kernel) (by decide +kernel)⟩
theorem w_mmaxL (O : gb_Ok G X cc nL ret own d) {x y : Int64} {index : Nat} (hd : decode cc pc = .ok (.invokestatic index, 3)) (h1 : Cond.methodLink own index Lib.MathLoose.max_long.x ∈ gU) (h5 : 1 ≤ d) (h6 : (st.map fun v => v.category).sum ≤ 80) (hn : pc + 3 = n) (k : Wm G X nL Q n lv (.long (if y < x then x else y) :: st) M) : Wm G X nL Q pc lv (.long y :: .long x :: st) M := by
  subst hn; exact fun H locs ls hP hS hl => va_mmax_long O.1 O.2.1 (O.2.2.1.trans hl.1.symm) O.2.2.2.1 (O.2.2.2.2.1 _ h1) (O.2.2.2.2.1 _ uy_max_long.1) (O.2.2.2.2.1 _ ui_java_lang_Math) (O.2.2.2.2.1 _ uy_max_long.2) (Nat.le_trans h5 O.2.2.2.2.2.2.2.2.2.2.1) (by have := O.2.2.2.2.2.2.2.2.2.2.2; omega) (Nat.zero_le _) (Nat.zero_le _) hd (k H locs ls hP hS hl)
end GBK
theorem lmax_K {a b : Nat} (ha : a < 2 ^ 62) (hb : b < 2 ^ 62) : (if lN b < lN a then lN a else lN b) = lN (max a b) := by
  have e : (lN b < lN a) ↔ b < a := by
    rw [Int64.lt_iff_toInt_lt]
    unfold lN
    rw [Int64.toInt_ofNat_of_lt (by omega), Int64.toInt_ofNat_of_lt (by omega)]
    omega
  by_cases h : b < a
  · rw [if_pos (e.mpr h), show max a b = a by omega]
  · rw [if_neg (fun q => h (e.mp q)), show max a b = b by omega]
theorem cmp_le {a b : Nat} (ha : a < 2 ^ 63) (hb : b < 2 ^ 63) : lg_cmp (lN a) (lN b) ≤ 0 ↔ a ≤ b := by
  unfold lg_cmp
  by_cases h : lN a > lN b
  · rw [if_pos h]
    have := (pk_lLT hb ha).mp h
    exact ⟨fun e => absurd e (by decide), fun e => by omega⟩
  · rw [if_neg h]
    have h2 := mt (pk_lLT hb ha).mpr h
    split
    · exact ⟨fun _ => by omega, fun _ => by decide⟩
    · exact ⟨fun _ => by omega, fun _ => by decide⟩
theorem cmp_lt {a b : Nat} (ha : a < 2 ^ 63) (hb : b < 2 ^ 63) : lg_cmp (lN a) (lN b) < 0 ↔ a < b := by
  unfold lg_cmp
  by_cases h : lN a > lN b
  · rw [if_pos h]
    have := (pk_lLT hb ha).mp h
    exact ⟨fun e => absurd e (by decide), fun e => by omega⟩
  · rw [if_neg h]
    have h2 := mt (pk_lLT hb ha).mpr h
    by_cases e : lN a = lN b
    · rw [if_pos e]
      have := (pk_lEQ ha hb).mp e
      exact ⟨fun e => absurd e (by decide), fun e => by omega⟩
    · rw [if_neg e]
      have h3 := mt (pk_lEQ ha hb).mpr e
      exact ⟨fun _ => by omega, fun _ => by decide⟩
theorem cmp_eq {a b : Nat} (ha : a < 2 ^ 63) (hb : b < 2 ^ 63) : lg_cmp (lN a) (lN b) = 0 ↔ a = b := by
  unfold lg_cmp
  by_cases h : lN a > lN b
  · rw [if_pos h]
    have := (pk_lLT hb ha).mp h
    exact ⟨fun e => absurd e (by decide), fun e => by omega⟩
  · rw [if_neg h]
    by_cases e : lN a = lN b
    · rw [if_pos e]
      exact ⟨fun _ => (pk_lEQ ha hb).mp e, fun _ => rfl⟩
    · rw [if_neg e]
      exact ⟨fun z => absurd z (by decide), fun z => absurd ((pk_lEQ ha hb).mpr z) e⟩
def sProd (f : Nat → Nat) : Nat → Nat
  | 0 => 1
  | k + 1 => sProd f k * f k
theorem sProd_le {f : Nat → Nat} {c : Nat} : ∀ {n : Nat}, (∀ k, k < n → f k ≤ c) → sProd f n ≤ c ^ n
  | 0, _ => Nat.le_refl _
  | n + 1, h => by
    simp only [sProd, Nat.pow_succ]
    exact Nat.mul_le_mul (sProd_le (n := n) (fun k hk => h k (by omega))) (h n (by omega))
def lieP (T : Tw) (k : Nat) : Nat → Nat := fun g => if hasB k g = true then tGives T g / 2 else tGives T g
def lieW (v k : Nat) : Nat → Nat := fun g => if hasB k g = true then v else 10 - v
def lieV (T : Tw) (isW : Bool) (k : Nat) : Nat := if isW = true then mWt T (lieP T k) else if pTrue T (mAm T (lieP T k)) (mWt T (lieP T k)) = true then 1 else 0
def lieS (T : Tw) (v : Nat) (isW : Bool) : Nat → Nat := sSum (fun k => sProd (lieW v k) T.2.2.2.1 * lieV T isW k)
def liesOk (v x : Int32) : Bool := wIn v (nI 0) (nI 10) && wIn x (nI 0) (nI 1)
def fracN (S A x : Nat) : Nat := (if x = 0 then S else A) / Nat.gcd S A
def a_lies (T : Tw) (isW : Bool) (v x : Int32) : Int64 := if liesOk v x = true then lN (fracN (lieS T v.toNatClampNeg isW (2 ^ T.2.2.2.1)) (10 ^ T.2.2.2.1) x.toNatClampNeg) else -1
theorem okP_lie {T : Tw} (ok : okT T) (k : Nat) : okP (lieP T k) := fun g hg => by
  have := tGives_le ok hg
  unfold lieP
  split <;> omega
theorem lieW_le {v k g : Nat} (hv : v ≤ 10) : lieW v k g ≤ 10 := by
  unfold lieW
  split <;> omega
theorem lieV_le {T : Tw} (ok : okT T) (isW : Bool) (k : Nat) : lieV T isW k ≤ 600 := by
  have := mWt_le ok (okP_lie ok k) (Nat.le_refl 3)
  unfold lieV
  split
  · exact this
  · split <;> omega
theorem lieS_le {T : Tw} (ok : okT T) {v : Nat} (hv : v ≤ 10) (isW : Bool) {m : Nat} (hm : m ≤ 16) : lieS T v isW m ≤ 96000000 := by
  have h := sSum_le (f := fun k => sProd (lieW v k) T.2.2.2.1 * lieV T isW k) (c := 6000000) (n := m) (fun k hk => by
    have h1 : sProd (lieW v k) T.2.2.2.1 ≤ 10000 := Nat.le_trans (sProd_le (fun g hg => lieW_le hv)) (Nat.pow_le_pow_right (show 0 < 10 by decide) ok.1)
    exact Nat.le_trans (Nat.mul_le_mul h1 (lieV_le ok isW k)) (by decide))
  unfold lieS
  omega
theorem eu_half {g l : Nat} (h : l < g) (hl : 0 < l) : l * (g % l) * 2 ≤ g * l := by
  have h1 : g % l + l ≤ g := by
    have := Nat.mod_add_div g l
    have h2 : 1 ≤ g / l := (Nat.one_le_div_iff hl).mpr (by omega)
    have h3 := Nat.mul_le_mul_left l h2
    omega
  have h2 : g % l < l := Nat.mod_lt _ hl
  have h3 : g % l * 2 ≤ g := by omega
  calc l * (g % l) * 2 = l * (g % l * 2) := Nat.mul_assoc _ _ _
    _ ≤ l * g := Nat.mul_le_mul_left l h3
    _ = g * l := Nat.mul_comm _ _
