/-! WHAT THE CALLS ANSWER, 4 -/
theorem le_nI {x : Int32} {b : Nat} (hb : b < 2 ^ 31) (h0 : ¬ x < 0) (h : x ≤ nI b) : ∃ j : Nat, j ≤ b ∧ x = nI j := by
  have h1 := Int32.le_iff_toInt_le.mp h
  rw [nI_toInt hb] at h1
  have h2 : 0 ≤ x.toInt := by
    have := mt Int32.lt_iff_toInt_lt.mpr h0
    have e : (0 : Int32).toInt = 0 := by decide
    omega
  refine ⟨x.toInt.toNat, by omega, ?_⟩
  apply Int32.toInt_inj.mp
  rw [nI_toInt (by omega)]
  omega
theorem flt0 {o : Option (Nat × Nat)} {i : Int32} (hb : ∀ q, o = some q → q.2 ≤ 40) (h : fltAt (szI o) i = 0) : ∃ q j, o = some q ∧ i = nI j ∧ j < q.2 := by
  unfold fltAt at h
  by_cases e : szI o = -1
  · rw [if_pos e] at h
    cases h
  · rw [if_neg e] at h
    by_cases e2 : i < 0 ∨ ¬ i < szI o
    · rw [if_pos e2] at h
      cases h
    · cases o with
      | none => exact absurd rfl e
      | some q =>
        have hq := hb q rfl
        have h1 : ¬ i < 0 := fun z => e2 (Or.inl z)
        have h2 : i < nI q.2 := Classical.byContradiction fun z => e2 (Or.inr z)
        obtain ⟨j, hj, rfl⟩ := nI_of h1
        exact ⟨q, j, rfl, rfl, (nI_ltI hj (by omega)).mp h2⟩
def bc (k : Nat) : Nat := sCnt (hasB k) 4
/-- who is let off by the set k gives nothing -/
def offP (T : Tw) (k : Nat) : Nat → Nat := fun g => if hasB k g = true then 0 else tGives T g
def offB (T : Tw) (k : Nat) : Bool := pTrue T (mAm T (offP T k)) (mWt T (offP T k))
def spB (T : Tw) : Nat → Option (Nat × Nat)
  | 0 => none
  | k + 1 => if offB T k = true ∧ (∀ q, spB T k = some q → q.1 < bc k) then some (bc k, k) else spB T k
def a_spare (T : Tw) (x : Int32) : Int32 := if wIn x (nI 0) (nI 1) = true then (if x = nI 0 then oI ((spB T (2 ^ T.2.2.2.1)).map (·.1)) else oI ((spB T (2 ^ T.2.2.2.1)).map (·.2))) else -1
theorem bc_le (k : Nat) : bc k ≤ 4 := sCnt_le _ _
theorem okP_off {T : Tw} (ok : okT T) (k : Nat) : okP (offP T k) := fun g hg => by
  have := tGives_le ok hg
  unfold offP
  split <;> omega
theorem spB_in {T : Tw} : ∀ {k : Nat} {q : Nat × Nat}, spB T k = some q → q.1 ≤ 4 ∧ q.2 < k
  | 0, q, h => by cases h
  | k + 1, q, h => by
    unfold spB at h
    by_cases e : offB T k = true ∧ (∀ q, spB T k = some q → q.1 < bc k)
    · rw [if_pos e] at h
      cases h
      exact ⟨bc_le k, by omega⟩
    · rw [if_neg e] at h
      have := spB_in h
      exact ⟨this.1, by omega⟩
