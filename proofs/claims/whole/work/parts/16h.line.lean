/-! A LINE AS A WHOLE -/
theorem aN_le (bs : Nat → Nat) (ln lo hi p : Nat) : aN bs ln lo hi p ≤ 6 := by
  unfold aN
  repeat' split
  all_goals decide
theorem aM_le (bs : Nat → Nat) (ln last p : Nat) : aM bs ln last p ≤ 6 := by
  unfold aM
  repeat' split
  all_goals decide
theorem tlC_le6 {c : Nat} (h : c ≤ 6) (t v : Nat) : tlC c t v ≤ 6 := by
  unfold tlC
  split
  · split <;> decide
  · exact h
theorem orF_le {x y : Nat × Nat} (h1 : x.1 ≤ 6) (h2 : y.1 ≤ 6) : (orF x y).1 ≤ 6 := by
  unfold orF
  split
  · exact h2
  · exact h1
theorem fGiv_le (bs : Nat → Nat) (ln : Nat) (Z : Sc) (b e : Nat) : (fGiv bs ln Z b e).1 ≤ 6 := orF_le (by show (if _ then _ else _) ≤ 6; split <;> decide) (orF_le (aM_le bs ln 3 e) (orF_le (aN_le bs ln 0 9 _) (aN_le bs ln 0 3 _)))
theorem fSor_le (bs : Nat → Nat) (ln : Nat) (Z : Sc) (e : Nat) : (fSor bs ln Z e).1 ≤ 6 := tlC_le6 (aN_le bs ln 0 3 e) _ _
theorem fHol_le (bs : Nat → Nat) (ln : Nat) (Z : Sc) (e : Nat) : (fHol bs ln Z e).1 ≤ 6 := orF_le (tlC_le6 (aN_le bs ln 0 3 e) _ _) (aN_le bs ln 0 9 _)
theorem fAdd_le (bs : Nat → Nat) (ln : Nat) (Z : Sc) (e : Nat) : (fAdd bs ln Z e).1 ≤ 6 := orF_le (tlC_le6 (aM_le bs ln 2 e) _ _) (aN_le bs ln 0 40 _)
theorem fAsk_le (bs : Nat → Nat) (ln : Nat) (Z : Sc) (b e : Nat) : (fAsk bs ln Z b e).1 ≤ 6 := orF_le (by show (if _ then _ else _) ≤ 6; split <;> decide) (orF_le (aN_le bs ln 3 12 e) (aN_le bs ln 0 10 _))
/-- 0 a giver's kind, 1 the confession, 2 hold, 3 add, 4 ask, 5 none of them -/
def wdN (bs : Nat → Nat) (so sa pl : Nat) : Nat := if tkK bs so sa pl < 4 then 0 else if tkIs bs so sa pl 0 = true then 1 else if tkIs bs so sa pl 1 = true then 2 else if tkIs bs so sa pl 2 = true then 3 else if tkIs bs so sa pl 3 = true then 4 else 5
def fWd (bs : Nat → Nat) (ln : Nat) (Z : Sc) (n sa pl : Nat) : Nat × Nat := if n = 0 then fGiv bs ln Z sa pl else if n = 1 then fSor bs ln Z pl else if n = 2 then fHol bs ln Z pl else if n = 3 then fAdd bs ln Z pl else if n = 4 then fAsk bs ln Z sa pl else (2, sa)
def eWd (bs : Nat → Nat) (ln : Nat) (n pl : Nat) : Nat := if n = 0 then tkE bs ln (tkE bs ln (tkE bs ln pl)) else if n = 1 then tkE bs ln pl else tkE bs ln (tkE bs ln pl)
def uWd (bs : Nat → Nat) (ln : Nat) (Z : Sc) (n k pl : Nat) : Sc := if n = 0 then uGiv bs ln Z k pl else if n = 1 then uSor bs ln Z pl else if n = 2 then uHol bs ln Z pl else if n = 3 then uAdd bs ln Z pl else if n = 4 then uAsk bs ln Z pl else Z
def fLin (bs : Nat → Nat) (ln : Nat) (Z : Sc) (so sa pl : Nat) : Nat × Nat := orF (fWd bs ln Z (wdN bs so sa pl) sa pl) (fSem bs ln (eWd bs ln (wdN bs so sa pl) pl))
def eLin (bs : Nat → Nat) (ln : Nat) (so sa pl : Nat) : Nat := tkE bs ln (eWd bs ln (wdN bs so sa pl) pl)
def uLin (bs : Nat → Nat) (ln : Nat) (Z : Sc) (so sa pl : Nat) : Sc := uWd bs ln Z (wdN bs so sa pl) (tkK bs so sa pl) pl
theorem fWd_le (bs : Nat → Nat) (ln : Nat) (Z : Sc) (n sa pl : Nat) : (fWd bs ln Z n sa pl).1 ≤ 6 := by
  unfold fWd
  split
  · exact fGiv_le bs ln Z sa pl
  · split
    · exact fSor_le bs ln Z pl
    · split
      · exact fHol_le bs ln Z pl
      · split
        · exact fAdd_le bs ln Z pl
        · split
          · exact fAsk_le bs ln Z sa pl
          · exact (show 2 ≤ 6 by decide)
theorem fSem_le (bs : Nat → Nat) (ln p : Nat) : (fSem bs ln p).1 ≤ 6 := by
  unfold fSem
  show (if _ then _ else if _ then _ else _) ≤ 6
  repeat' split
  all_goals decide
theorem fLin_le (bs : Nat → Nat) (ln : Nat) (Z : Sc) (so sa pl : Nat) : (fLin bs ln Z so sa pl).1 ≤ 6 := orF_le (fWd_le bs ln Z _ sa pl) (fSem_le bs ln _)
theorem wdI_lt {k : Nat} (h : k ≤ 4) (q : wdI k < 0) : ¬ k < 4 := by
  intro h4
  have e : wdI k = nI k := if_neg (by omega)
  rw [e] at q
  have : ∀ j, j < 4 → ¬ nI j < 0 := by decide +kernel
  exact this k h4 q
theorem wdI_ge {k : Nat} (h : k ≤ 4) (q : ¬ wdI k < 0) : k < 4 := by
  rcases Nat.lt_or_ge k 4 with z | z
  · exact z
  · exact absurd (by rw [show k = 4 by omega]; decide) q
