/-! TOKENS -/
def rnF (bs : Nat → Nat) (ln lo hi : Nat) : Nat → Nat → Nat
  | 0, p => p
  | k + 1, p => if p < ln ∧ lo ≤ bs p ∧ bs p ≤ hi then rnF bs ln lo hi k (p + 1) else p
def rn (bs : Nat → Nat) (ln lo hi p : Nat) : Nat := rnF bs ln lo hi (ln - p) p
theorem rn_go {bs : Nat → Nat} {ln lo hi p : Nat} (h : p < ln) (h1 : lo ≤ bs p) (h2 : bs p ≤ hi) : rn bs ln lo hi p = rn bs ln lo hi (p + 1) := by
  unfold rn
  rw [show ln - p = (ln - (p + 1)) + 1 by omega]
  exact if_pos ⟨h, h1, h2⟩
theorem rn_stop {bs : Nat → Nat} {ln lo hi p : Nat} (h : ¬ (p < ln ∧ lo ≤ bs p ∧ bs p ≤ hi)) : rn bs ln lo hi p = p := by
  unfold rn
  cases e : ln - p with
  | zero => rfl
  | succ k => exact if_neg h
theorem rnF_ge (bs : Nat → Nat) (ln lo hi : Nat) : ∀ k p : Nat, p ≤ rnF bs ln lo hi k p
  | 0, p => Nat.le_refl p
  | k + 1, p => by
    unfold rnF
    split
    · have := rnF_ge bs ln lo hi k (p + 1); omega
    · exact Nat.le_refl p
theorem rn_ge (bs : Nat → Nat) (ln lo hi p : Nat) : p ≤ rn bs ln lo hi p := rnF_ge bs ln lo hi _ p
theorem rnF_le (bs : Nat → Nat) (ln lo hi : Nat) : ∀ k p : Nat, p ≤ ln → rnF bs ln lo hi k p ≤ ln
  | 0, p, h => h
  | k + 1, p, h => by
    unfold rnF
    split
    · rename_i q; exact rnF_le bs ln lo hi k (p + 1) q.1
    · exact h
theorem rn_le {bs : Nat → Nat} {ln lo hi p : Nat} (h : p ≤ ln) : rn bs ln lo hi p ≤ ln := rnF_le bs ln lo hi _ p h
theorem rnF_in (bs : Nat → Nat) (ln lo hi : Nat) : ∀ k p : Nat, ∀ q, p ≤ q → q < rnF bs ln lo hi k p → lo ≤ bs q ∧ bs q ≤ hi
  | 0, p, q, h1, h2 => absurd h2 (by unfold rnF; omega)
  | k + 1, p, q, h1, h2 => by
    unfold rnF at h2
    split at h2
    · rename_i z
      rcases Nat.eq_or_lt_of_le h1 with e | e
      · rw [← e]; exact z.2
      · exact rnF_in bs ln lo hi k (p + 1) q e h2
    · omega
theorem rn_in {bs : Nat → Nat} {ln lo hi p q : Nat} (h1 : p ≤ q) (h2 : q < rn bs ln lo hi p) : lo ≤ bs q ∧ bs q ≤ hi := rnF_in bs ln lo hi _ p q h1 h2
theorem rn_lt {bs : Nat → Nat} {ln lo hi p : Nat} : p < rn bs ln lo hi p ↔ (p < ln ∧ lo ≤ bs p ∧ bs p ≤ hi) := by
  constructor
  · intro h
    by_cases q : p < ln ∧ lo ≤ bs p ∧ bs p ≤ hi
    · exact q
    · rw [rn_stop q] at h; omega
  · intro h
    rw [rn_go h.1 h.2.1 h.2.2]
    exact rn_ge bs ln lo hi (p + 1)
def tkB (bs : Nat → Nat) (ln p : Nat) : Nat := rn bs ln 32 32 p
def numV (bs : Nat → Nat) (sa pl : Nat) : Nat := if pl - sa = 2 then 10 * (bs sa - 48) + bs (sa + 1) - 48 else bs sa - 48
def tkSb (bs : Nat → Nat) (ln b : Nat) : Nat := if ln ≤ b then 1 else if b < rn bs ln 97 122 b then 2 else if b < rn bs ln 48 57 b then (if rn bs ln 48 57 b - b ≤ 2 then 3 else 0) else if bs b = 59 then 4 else 0
def tkEb (bs : Nat → Nat) (ln b : Nat) : Nat := if ln ≤ b then b else if b < rn bs ln 97 122 b then rn bs ln 97 122 b else if b < rn bs ln 48 57 b then rn bs ln 48 57 b else b + 1
def tkUb (bs : Nat → Nat) (ln b nu : Nat) : Nat := if ln ≤ b then nu else if b < rn bs ln 97 122 b then nu else if b < rn bs ln 48 57 b then numV bs b (rn bs ln 48 57 b) else nu
def tkS (bs : Nat → Nat) (ln p : Nat) : Nat := tkSb bs ln (tkB bs ln p)
def tkE (bs : Nat → Nat) (ln p : Nat) : Nat := tkEb bs ln (tkB bs ln p)
def tkU (bs : Nat → Nat) (ln p nu : Nat) : Nat := tkUb bs ln (tkB bs ln p) nu
theorem tkB_le {bs : Nat → Nat} {ln p : Nat} (h : p ≤ ln) : tkB bs ln p ≤ ln := rn_le h
theorem tkB_ge (bs : Nat → Nat) (ln p : Nat) : p ≤ tkB bs ln p := rn_ge bs ln 32 32 p
theorem tkEb_ge (bs : Nat → Nat) (ln b : Nat) : b ≤ tkEb bs ln b := by
  unfold tkEb
  have h1 := rn_ge bs ln 97 122 b
  have h2 := rn_ge bs ln 48 57 b
  split
  · exact Nat.le_refl b
  · split
    · exact h1
    · split
      · exact h2
      · omega
theorem tkEb_le {bs : Nat → Nat} {ln b : Nat} (h : b ≤ ln) : tkEb bs ln b ≤ ln := by
  unfold tkEb
  have h1 := rn_le (bs := bs) (lo := 97) (hi := 122) h
  have h2 := rn_le (bs := bs) (lo := 48) (hi := 57) h
  split
  · exact h
  · split
    · exact h1
    · split
      · exact h2
      · omega
theorem tkE_le {bs : Nat → Nat} {ln p : Nat} (h : p ≤ ln) : tkE bs ln p ≤ ln := tkEb_le (tkB_le h)
theorem tkE_ge (bs : Nat → Nat) (ln p : Nat) : tkB bs ln p ≤ tkE bs ln p := tkEb_ge bs ln _
theorem tkEb_gt {bs : Nat → Nat} {ln b : Nat} (h : tkSb bs ln b ≠ 1) : b < tkEb bs ln b := by
  unfold tkSb at h
  unfold tkEb
  split
  · rename_i q; rw [if_pos q] at h; exact absurd rfl h
  · split
    · assumption
    · split
      · assumption
      · omega
theorem tkS_le (bs : Nat → Nat) (ln p : Nat) : tkS bs ln p ≤ 4 := by
  unfold tkS tkSb
  repeat' split
  all_goals decide
theorem numV_le {bs : Nat → Nat} {sa pl : Nat} (h1 : bs sa ≤ 127) (h2 : bs (sa + 1) ≤ 127) : numV bs sa pl ≤ 999 := by
  unfold numV
  split <;> omega
def nmB (bs : Nat → Nat) (sa i : Nat) : Nat → Bool
  | 0 => true
  | k + 1 => nmB bs sa i k && decide (bs (sa + k) = tC i k)
theorem nmB_t {bs : Nat → Nat} {sa i : Nat} : ∀ {n : Nat}, nmB bs sa i n = true ↔ ∀ k, k < n → bs (sa + k) = tC i k
  | 0 => ⟨fun _ k hk => absurd hk (Nat.not_lt_zero k), fun _ => rfl⟩
  | n + 1 => by
    simp only [nmB, Bool.and_eq_true, decide_eq_true_eq]
    rw [nmB_t (n := n)]
    constructor
    · intro h k hk
      rcases Nat.eq_or_lt_of_le (Nat.le_of_lt_succ hk) with e | e
      · rw [e]; exact h.2
      · exact h.1 k e
    · intro h
      exact ⟨fun k hk => h k (by omega), h n (by omega)⟩
theorem nmB_f {bs : Nat → Nat} {sa i n k : Nat} (hk : k < n) (h : ¬ bs (sa + k) = tC i k) : nmB bs sa i n = false := by
  cases e : nmB bs sa i n with
  | false => rfl
  | true => exact absurd (nmB_t.mp e k hk) h
def tkIs (bs : Nat → Nat) (so sa pl i : Nat) : Bool := decide (so = 2) && decide (pl - sa = tL i) && nmB bs sa i (tL i)
