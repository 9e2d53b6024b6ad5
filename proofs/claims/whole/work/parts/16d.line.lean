/-! LINES: a fault is (its sort, its place), sort 0 if there is none; places are those of the tape -/
def tkV (bs : Nat → Nat) (ln p : Nat) : Nat := numV bs (tkB bs ln p) (tkE bs ln p)
theorem tk3 {bs : Nat → Nat} {ln p : Nat} (h : tkS bs ln p = 3) : ¬ ln ≤ tkB bs ln p ∧ ¬ tkB bs ln p < rn bs ln 97 122 (tkB bs ln p) ∧ tkB bs ln p < rn bs ln 48 57 (tkB bs ln p) ∧ rn bs ln 48 57 (tkB bs ln p) - tkB bs ln p ≤ 2 ∧ tkE bs ln p = rn bs ln 48 57 (tkB bs ln p) := by
  unfold tkS tkSb at h
  split at h
  · exact absurd h (by decide)
  · rename_i h1
    split at h
    · exact absurd h (by decide)
    · rename_i h2
      split at h
      · rename_i h3
        split at h
        · rename_i h4
          exact ⟨h1, h2, h3, h4, by unfold tkE tkEb; rw [if_neg h1, if_neg h2, if_pos h3]⟩
        · exact absurd h (by decide)
      · split at h
        · exact absurd h (by decide)
        · exact absurd h (by decide)
theorem tkU_3 {bs : Nat → Nat} {ln p nu : Nat} (h : tkS bs ln p = 3) : tkU bs ln p nu = tkV bs ln p := by
  obtain ⟨h1, h2, h3, -, h5⟩ := tk3 h
  unfold tkU tkUb tkV
  rw [if_neg h1, if_neg h2, if_pos h3, h5]
theorem tkV_le {bs : Nat → Nat} {ln p : Nat} (h : tkS bs ln p = 3) : tkV bs ln p ≤ 99 := by
  obtain ⟨h1, h2, h3, h4, h5⟩ := tk3 h
  have h6 := rn_in (Nat.le_refl _) h3
  unfold tkV numV
  rw [h5]
  split
  · have h7 := rn_in (bs := bs) (ln := ln) (lo := 48) (hi := 57) (p := tkB bs ln p) (q := tkB bs ln p + 1) (by omega) (by omega)
    omega
  · omega
def tkM (bs : Nat → Nat) (so sa pl : Nat) : Nat := if tkIs bs so sa pl 8 = true then 0 else if tkIs bs so sa pl 9 = true then 1 else if tkIs bs so sa pl 10 = true then 2 else if tkIs bs so sa pl 11 = true then 3 else 4
def tkK (bs : Nat → Nat) (so sa pl : Nat) : Nat := if tkIs bs so sa pl 4 = true then 0 else if tkIs bs so sa pl 5 = true then 1 else if tkIs bs so sa pl 6 = true then 2 else if tkIs bs so sa pl 7 = true then 3 else 4
theorem tkM_le (bs : Nat → Nat) (so sa pl : Nat) : tkM bs so sa pl ≤ 4 := by
  unfold tkM
  repeat' split
  all_goals decide
theorem tkK_le (bs : Nat → Nat) (so sa pl : Nat) : tkK bs so sa pl ≤ 4 := by
  unfold tkK
  repeat' split
  all_goals decide
/-- the answer of the program's search for a word: -4, if there is none -/
def wdI (k : Nat) : Int32 := if k = 4 then -4 else nI k
def mAt (bs : Nat → Nat) (ln p : Nat) : Nat := tkM bs (tkS bs ln p) (tkB bs ln p) (tkE bs ln p)
def tel (a p : Nat) : Nat := if hasB a p = true then a else a + 2 ^ p
theorem tel_or : ∀ a, a < 16 → ∀ p, p < 4 → nI a ||| (nI 1 <<< (nI p &&& 31)) = nI (tel a p) := by decide +kernel
theorem tel_lt : ∀ a, a < 16 → ∀ p, p < 4 → tel a p < 16 := by decide +kernel
def aT (bs : Nat → Nat) (ln p : Nat) : Nat := if tkS bs ln p = 0 then 1 else 0
def aN (bs : Nat → Nat) (ln lo hi p : Nat) : Nat := if tkS bs ln p = 0 then 1 else if ¬ tkS bs ln p = 3 then 2 else if lo ≤ tkV bs ln p ∧ tkV bs ln p ≤ hi then 0 else 3
def aM (bs : Nat → Nat) (ln last p : Nat) : Nat := if tkS bs ln p = 0 then 1 else if mAt bs ln p ≤ last then 0 else 2
def tlC (c told v : Nat) : Nat := if c = 0 then (if hasB told v = true then 4 else 0) else c
def fpU (c a fp : Nat) : Nat := if c = 0 then fp else a
def orF (x y : Nat × Nat) : Nat × Nat := if x.1 = 0 then y else x
theorem orF_0 {x y : Nat × Nat} (h : x.1 = 0) : orF x y = y := if_pos h
theorem orF_n {x y : Nat × Nat} (h : ¬ x.1 = 0) : orF x y = x := if_neg h
theorem aN_0 {bs : Nat → Nat} {ln lo hi p : Nat} (h : aN bs ln lo hi p = 0) : tkS bs ln p = 3 ∧ lo ≤ tkV bs ln p ∧ tkV bs ln p ≤ hi := by
  unfold aN at h
  split at h
  · exact absurd h (by decide)
  · split at h
    · exact absurd h (by decide)
    · rename_i h2
      split at h
      · rename_i h3; exact ⟨Decidable.not_not.mp h2, h3⟩
      · exact absurd h (by decide)
theorem aM_0 {bs : Nat → Nat} {ln last p : Nat} (h : aM bs ln last p = 0) : mAt bs ln p ≤ last := by
  unfold aM at h
  split at h
  · exact absurd h (by decide)
  · split at h
    · assumption
    · exact absurd h (by decide)
/-- lines: n is the word's number (0 to 3 kinds, 4 the confession, 5 hold, 6 add, 7 ask), b and e where the word begins and ends -/
abbrev Sc := Tw × Nat × Nat × Nat × Bool
def fGiv (bs : Nat → Nat) (ln : Nat) (Z : Sc) (b e : Nat) : Nat × Nat := orF (if 4 ≤ Z.1.2.2.2.1 then 5 else 0, b) (orF (aM bs ln 3 e, tkB bs ln e) (orF (aN bs ln 0 9 (tkE bs ln e), tkB bs ln (tkE bs ln e)) (aN bs ln 0 3 (tkE bs ln (tkE bs ln e)), tkB bs ln (tkE bs ln (tkE bs ln e)))))
def fSor (bs : Nat → Nat) (ln : Nat) (Z : Sc) (e : Nat) : Nat × Nat := (tlC (aN bs ln 0 3 e) Z.2.1 (tkV bs ln e), tkB bs ln e)
def fHol (bs : Nat → Nat) (ln : Nat) (Z : Sc) (e : Nat) : Nat × Nat := orF (tlC (aN bs ln 0 3 e) Z.2.2.1 (tkV bs ln e), tkB bs ln e) (aN bs ln 0 9 (tkE bs ln e), tkB bs ln (tkE bs ln e))
def fAdd (bs : Nat → Nat) (ln : Nat) (Z : Sc) (e : Nat) : Nat × Nat := orF (tlC (aM bs ln 2 e) Z.2.2.2.1 (mAt bs ln e), tkB bs ln e) (aN bs ln 0 40 (tkE bs ln e), tkB bs ln (tkE bs ln e))
def fAsk (bs : Nat → Nat) (ln : Nat) (Z : Sc) (b e : Nat) : Nat × Nat := orF (if Z.2.2.2.2 = true then 4 else 0, b) (orF (aN bs ln 3 12 e, tkB bs ln e) (aN bs ln 0 10 (tkE bs ln e), tkB bs ln (tkE bs ln e)))
def uGiv (bs : Nat → Nat) (ln : Nat) (Z : Sc) (k e : Nat) : Sc := ((upN (upN (upN (upN Z.1.1 (Z.1.2.2.2.1 * 6 + 0) k) (Z.1.2.2.2.1 * 6 + 2) (mAt bs ln e)) (Z.1.2.2.2.1 * 6 + 1) (tkV bs ln (tkE bs ln e))) (Z.1.2.2.2.1 * 6 + 3) (tkV bs ln (tkE bs ln (tkE bs ln e))), Z.1.2.1, Z.1.2.2.1, Z.1.2.2.2.1 + 1, Z.1.2.2.2.2), Z.2)
def uSor (bs : Nat → Nat) (ln : Nat) (Z : Sc) (e : Nat) : Sc := ((upN Z.1.1 (tkV bs ln e * 6 + 4) 1, Z.1.2), tel Z.2.1 (tkV bs ln e), Z.2.2)
def uHol (bs : Nat → Nat) (ln : Nat) (Z : Sc) (e : Nat) : Sc := ((upN Z.1.1 (tkV bs ln e * 6 + 5) (tkV bs ln (tkE bs ln e)), Z.1.2), Z.2.1, tel Z.2.2.1 (tkV bs ln e), Z.2.2.2)
def uAdd (bs : Nat → Nat) (ln : Nat) (Z : Sc) (e : Nat) : Sc := ((Z.1.1, upN Z.1.2.1 (mAt bs ln e) (tkV bs ln (tkE bs ln e)), Z.1.2.2), Z.2.1, Z.2.2.1, tel Z.2.2.2.1 (mAt bs ln e), Z.2.2.2.2)
def uAsk (bs : Nat → Nat) (ln : Nat) (Z : Sc) (e : Nat) : Sc := ((Z.1.1, Z.1.2.1, Z.1.2.2.1, Z.1.2.2.2.1, tkV bs ln e, tkV bs ln (tkE bs ln e), Z.1.2.2.2.2.2.2), Z.2.1, Z.2.2.1, Z.2.2.2.1, true)
def fSem (bs : Nat → Nat) (ln p : Nat) : Nat × Nat := (if tkS bs ln p = 0 then 1 else if tkS bs ln p = 4 then 0 else 2, tkB bs ln p)
/-- the scribe and the tape: where there is no fault, what is written and where the tape stands -/
def LnP (G : gb_G) (M : gb_M) (bs : Nat → Nat) (ln : Nat) (F : Nat × Nat) (e : Nat) (Z : Sc) : Prop :=
  ∃ (fp : Nat) (Y : Sc) (pl so sa nu : Nat), isC G M F.1 fp Y.2.1 Y.2.2.1 Y.2.2.2.1 Y.2.2.2.2 ∧ isT G M 15 Y.1 ∧ isP G M bs ln pl so sa nu ∧ pl ≤ ln ∧ sa ≤ 160 ∧ so ≤ 4 ∧ (F.1 ≠ 0 → fp = F.2) ∧ (F.1 = 0 → pl = e ∧ Y = Z)
theorem wIn_wd : ∀ m, m ≤ 4 → ∀ l, l < 4 → wIn (wdI m) (nI 0) (nI l) = decide (m ≤ l) := by decide +kernel
theorem dn_t {p : Prop} [Decidable p] (h : decide (¬ p) = true) : ¬ p := of_decide_eq_true h
theorem dn_f {p : Prop} [Decidable p] (h : decide (¬ p) = false) : p := Decidable.not_not.mp (of_decide_eq_false h)
theorem orF_ok {c a : Nat} {y r : Nat × Nat} (h : c = 0) (hy : y = r) : orF (c, a) y = r := (if_pos h).trans hy
theorem orF_no {c a : Nat} {y : Nat × Nat} (h : ¬ c = 0) : orF (c, a) y = (c, a) := if_neg h
theorem tlC_n {c t v : Nat} (h : ¬ c = 0) : tlC c t v = c := if_neg h
theorem tlC_le (t v : Nat) : tlC 0 t v ≤ 4 := by
  unfold tlC
  rw [if_pos rfl]
  split <;> decide
