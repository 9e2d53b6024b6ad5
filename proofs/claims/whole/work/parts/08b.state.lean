/-! WHAT THE CALLS ANSWER, 2 -/
def mineB (T : Tw) (j v : Nat) : Bool := pTrue T (mAm T (upN (tGives T) j v)) (mWt T (upN (tGives T) j v))
def a_mine (T : Tw) (g : Int32) : Int32 := if isGv g T.2.2.2.1 = true then oI (sFirst (mineB T g.toNatClampNeg) 41) else -1
def a_without (T : Tw) (g : Int32) : Int32 := if isGv g T.2.2.2.1 = true then oI (pNote (mAm T (upN (tGives T) g.toNatClampNeg 0)) (mWt T (upN (tGives T) g.toNatClampNeg 0))) else -1
def leastB (T : Tw) (m v : Nat) : Bool := tTrue (T.1, upN T.2.1 m v, T.2.2)
def a_least (T : Tw) (m : Int32) : Int32 := if wIn m (nI 0) (nI 2) = true then oI (sFirst (leastB T m.toNatClampNeg) 41) else -1
def a_lasts (T : Tw) : Int32 := oI (sFirst (fun t => !tTrue (rep tStrike t T)) 501)
theorem sF_none {P : Nat → Bool} : ∀ {n : Nat}, (∀ c, c < n → P c = false) → sFirst P n = none
  | 0, _ => rfl
  | n + 1, h => by
    simp only [sFirst, sF_none (n := n) (fun c hc => h c (by omega)), h n (by omega)]
    simp
theorem sF_at {P : Nat → Bool} {v : Nat} (hv : P v = true) (h : ∀ c, c < v → P c = false) : ∀ {n : Nat}, v < n → sFirst P n = some v
  | 0, q => absurd q (Nat.not_lt_zero v)
  | n + 1, q => by
    rcases Nat.lt_or_ge v n with z | z
    · simp only [sFirst, sF_at hv h z]
      simp
    · have e : v = n := by omega
      subst e
      simp only [sFirst, sF_none h, hv]
      simp
theorem rep_succ {α : Type} (f : α → α) : ∀ (k : Nat) (a : α), rep f (k + 1) a = f (rep f k a)
  | 0, a => rfl
  | k + 1, a => by
    show rep f (k + 1) (f a) = f (rep f (k + 1) a)
    rw [rep_succ f k (f a)]
    rfl
theorem strike_sk (T : Tw) : (tStrike T).2.2.2.2.2.2 = T.2.2.2.2.2.2 + 1 ∧ (tStrike T).2.2.2.1 = T.2.2.2.1 := by
  unfold tStrike
  split <;> exact ⟨rfl, rfl⟩
theorem rep_sk (T : Tw) : ∀ k, (rep tStrike k T).2.2.2.2.2.2 = T.2.2.2.2.2.2 + k ∧ (rep tStrike k T).2.2.2.1 = T.2.2.2.1
  | 0 => ⟨rfl, rfl⟩
  | k + 1 => by
    rw [rep_succ]
    have h := rep_sk T k
    have h2 := strike_sk (rep tStrike k T)
    rw [h2.1, h2.2, h.1, h.2]
    exact ⟨by omega, rfl⟩
theorem okT_rep {T : Tw} (ok : okT T) : ∀ k, T.2.2.2.2.2.2 + k ≤ 2000 → okT (rep tStrike k T)
  | 0, _ => ok
  | k + 1, h => by
    rw [rep_succ]
    exact okT_strike (okT_rep ok k (by omega)) (by rw [(rep_sk T k).1]; omega)
theorem okT_tr {T : Tw} (ok : okT T) {j k v : Nat} (hj : j < 4) (hk : k < 6) (hv : v ≤ gb_hig k) : okT (upN T.1 (j * 6 + k) v, T.2) := by
  refine ⟨ok.1, fun o ho => ?_, ok.2.2⟩
  have h := ok.2.1 o ho
  rcases (show k = 0 ∨ k = 1 ∨ k = 2 ∨ k = 3 ∨ k = 4 ∨ k = 5 by omega) with e | e | e | e | e | e <;> subst e <;> (simp only [gb_hig, List.getD_cons_zero, List.getD_cons_succ] at hv) <;> refine ⟨?_, ?_, ?_, ?_, ?_, ?_⟩ <;> (show upN T.1 _ _ _ ≤ _) <;> unfold upN <;> split <;> omega
theorem okT_ad {T : Tw} (ok : okT T) {m v : Nat} (hv : v ≤ 40) : okT (T.1, upN T.2.1 m v, T.2.2) := by
  refine ⟨ok.1, ok.2.1, fun o ho => ⟨?_, (ok.2.2.1 o ho).2⟩, ok.2.2.2⟩
  have h := ok.2.2.1 o ho
  show upN T.2.1 m v o ≤ 40
  unfold upN
  split <;> omega
theorem okP_up {pa : Nat → Nat} (h : okP pa) {j v : Nat} (hv : v ≤ 40) : okP (upN pa j v) := fun g hg => by
  have := h g hg
  unfold upN
  split <;> omega
theorem mine_cong {T : Tw} {pa : Nat → Nat} {j v : Nat} (h : ∀ g, g < T.2.2.2.1 → g ≠ j → pa g = tGives T g) : ∀ g, g < T.2.2.2.1 → upN pa j v g = upN (tGives T) j v g := fun g hg => by
  unfold upN
  split
  · rfl
  · exact h g hg (by assumption)
theorem hig_le (k : Nat) : gb_hig k ≤ 9 := by
  rcases (show k = 0 ∨ k = 1 ∨ k = 2 ∨ k = 3 ∨ k = 4 ∨ k = 5 ∨ 6 ≤ k by omega) with e | e | e | e | e | e | e
  · subst e; decide
  · subst e; decide
  · subst e; decide
  · subst e; decide
  · subst e; decide
  · subst e; decide
  · unfold gb_hig
    rw [List.getD_eq_getElem?_getD, List.getElem?_eq_none (by simpa using e)]
    decide
