/-! PURE: sheets -/
def fltAt (sz i : Int32) : Nat := if sz = -1 then 1 else if i < 0 ∨ ¬ i < sz then 2 else 0
def pfl (sz : Int32) (la lane : Nat) (f : Int32) : Nat := if ¬ sz = -1 ∧ ¬ la = lane then 3 else if fltAt sz f = 0 then fltAt sz (f + nI 1) else fltAt sz f
def fstF (P : Nat → Nat) : Nat → Nat → Nat
  | 0, i => i
  | k + 1, i => if P i = 0 then fstF P k (i + 1) else i
def laneV (la : Nat) (v : Int32) : Int32 := if la = 0 then v.toInt8.toInt32 else if la = 1 then v.toInt16.toInt32 else v
theorem fltAt_le (sz i : Int32) : fltAt sz i ≤ 2 := by
  unfold fltAt
  split
  · omega
  · split <;> omega
theorem pfl_le (sz : Int32) (la lane : Nat) (f : Int32) : pfl sz la lane f ≤ 3 := by
  have h1 := fltAt_le sz f
  have h2 := fltAt_le sz (f + nI 1)
  unfold pfl
  split
  · omega
  · split <;> omega
/-- the fault of pair i, counted from cell f on -/
def pairF (sz : Int32) (la lane : Nat) (f : Int32) (i : Nat) : Nat := pfl sz la lane (f + nI (2 * i))
/-- a sheet's cells -/
def isS (G : gb_G) (M : gb_M) (b : Nat) (sz : Int32) (pf la : Nat) (r : Nat → Int32) : Prop := M b = .inr (3, [.ref (gb_ad G (b + 1)), .int sz, .int (nI pf), .int (nI la)]) ∧ M (b + 1) = IA G 40 r
theorem isS.keep {G : gb_G} {M M' : gb_M} {b lo hi : Nat} {sz : Int32} {pf la : Nat} {r : Nat → Int32} (h : isS G M b sz pf la r) (s : sm M M' lo hi) (hk : b + 1 < lo ∨ hi < b) : isS G M' b sz pf la r := ⟨(s b (by omega)).trans h.1, (s (b + 1) (by omega)).trans h.2⟩
theorem fstF_le (P : Nat → Nat) : ∀ k i, fstF P k i ≤ i + k
  | 0, i => Nat.le_refl _
  | k + 1, i => by
    have h := fstF_le P k (i + 1)
    simp only [fstF]
    split <;> omega
theorem fst_go {P : Nat → Nat} : ∀ (k i : Nat), (∀ j, i ≤ j → j < i + k → P j = 0) → fstF P k i = i + k
  | 0, i, _ => rfl
  | k + 1, i, h => by
    simp only [fstF]
    rw [if_pos (h i (Nat.le_refl _) (by omega)), fst_go k (i + 1) (fun j h1 h2 => h j (by omega) (by omega))]
    omega
theorem fst_all {P : Nat → Nat} {n : Nat} (h : ∀ j, j < n → P j = 0) : fstF P n 0 = n := by
  rw [fst_go n 0 (fun j _ h2 => h j (by omega))]
  omega
theorem fst_stop {P : Nat → Nat} : ∀ (k a i : Nat), a ≤ i → i < a + k → (∀ j, a ≤ j → j < i → P j = 0) → ¬ P i = 0 → fstF P k a = i
  | 0, a, i, h1, h2, _, _ => by omega
  | k + 1, a, i, h1, h2, h3, h4 => by
    simp only [fstF]
    by_cases e : a = i
    · subst e
      rw [if_neg h4]
    · rw [if_pos (h3 a (Nat.le_refl _) (by omega))]
      exact fst_stop k (a + 1) i (by omega) (by omega) (fun j q1 q2 => h3 j (by omega) q2) h4
theorem fst_at {P : Nat → Nat} {n i : Nat} (hi : i < n) (h : ∀ j, j < i → P j = 0) (hp : ¬ P i = 0) : fstF P n 0 = i := fst_stop n 0 i (Nat.zero_le _) (by omega) (fun j _ q => h j q) hp
