/-! PURE: what the town's numbers mean; small sums, counts, bits -/
def sSum (f : Nat → Nat) : Nat → Nat
  | 0 => 0
  | k + 1 => sSum f k + f k
def sCnt (p : Nat → Bool) : Nat → Nat
  | 0 => 0
  | k + 1 => sCnt p k + (if p k = true then 1 else 0)
def sAll (p : Nat → Bool) : Nat → Bool
  | 0 => true
  | k + 1 => sAll p k && p k
def sBits (p : Nat → Bool) : Nat → Nat
  | 0 => 0
  | k + 1 => sBits p k + (if p k = true then 2 ^ k else 0)
theorem sAll_no {p : Nat → Bool} {i : Nat} (h : p i = false) : ∀ {n : Nat}, i < n → sAll p n = false
  | 0, q => absurd q (Nat.not_lt_zero i)
  | n + 1, q => by
    rcases Nat.lt_or_ge i n with q | q
    · simp [sAll, sAll_no h q]
    · have e : i = n := by omega
      subst e
      simp [sAll, h]
theorem sCnt_le (p : Nat → Bool) : ∀ n, sCnt p n ≤ n
  | 0 => Nat.le_refl _
  | n + 1 => by
    have h := sCnt_le p n
    simp only [sCnt]
    split <;> omega
theorem sBits_lt (p : Nat → Bool) : ∀ n, sBits p n < 2 ^ n
  | 0 => by simp [sBits]
  | n + 1 => by
    have h := sBits_lt p n
    have e : 2 ^ (n + 1) = 2 ^ n + 2 ^ n := by rw [Nat.pow_succ]; omega
    simp only [sBits]
    split <;> omega
theorem sSum_le {f : Nat → Nat} {c : Nat} : ∀ {n : Nat}, (∀ k, k < n → f k ≤ c) → sSum f n ≤ n * c
  | 0, _ => by simp [sSum]
  | n + 1, h => by
    have h1 := sSum_le (n := n) (fun k hk => h k (by omega))
    have h2 := h n (by omega)
    simp only [sSum, Nat.succ_mul]
    omega
theorem sSum_cong {f g : Nat → Nat} : ∀ {n : Nat}, (∀ k, k < n → f k = g k) → sSum f n = sSum g n
  | 0, _ => rfl
  | n + 1, h => by simp only [sSum]; rw [sSum_cong (fun k hk => h k (by omega)), h n (by omega)]
theorem sCnt_cong {f g : Nat → Bool} : ∀ {n : Nat}, (∀ k, k < n → f k = g k) → sCnt f n = sCnt g n
  | 0, _ => rfl
  | n + 1, h => by simp only [sCnt]; rw [sCnt_cong (fun k hk => h k (by omega)), h n (by omega)]
theorem sAll_cong {f g : Nat → Bool} : ∀ {n : Nat}, (∀ k, k < n → f k = g k) → sAll f n = sAll g n
  | 0, _ => rfl
  | n + 1, h => by simp only [sAll]; rw [sAll_cong (fun k hk => h k (by omega)), h n (by omega)]
theorem sBits_cong {f g : Nat → Bool} : ∀ {n : Nat}, (∀ k, k < n → f k = g k) → sBits f n = sBits g n
  | 0, _ => rfl
  | n + 1, h => by simp only [sBits]; rw [sBits_cong (fun k hk => h k (by omega)), h n (by omega)]
theorem nI_or (a b : Nat) : nI a ||| nI b = nI (a ||| b) := by
  apply Int32.toBitVec_inj.mp
  show (nI a).toBitVec ||| (nI b).toBitVec = (nI (a ||| b)).toBitVec
  simp only [nI, Int32.toBitVec_ofNat]
  apply BitVec.eq_of_toNat_eq
  simp [BitVec.toNat_or, BitVec.toNat_ofNat, Nat.or_mod_two_pow]
theorem nI_sl : ∀ n, n < 32 → ((nI n &&& 31).toBitVec.smod 32).toNat = n := by decide +kernel
theorem nI_shl {a g : Nat} (hg : g < 31) (ha : a * 2 ^ g < 2 ^ 32) : nI a <<< (nI g &&& 31) = nI (a * 2 ^ g) := pk_shlN _ g (nI_sl g (by omega)) ha
theorem nI_shr {a g : Nat} (ha : a < 2 ^ 31) (hg : g < 32) : nI a >>> (nI g &&& 31) = nI (a / 2 ^ g) := pk_shrN ha _ g (nI_sl g hg)
theorem nI_and1 {a : Nat} (ha : a < 2 ^ 32) : nI a &&& nI 1 = nI (a % 2) := pk_andN ha 1 (by decide)
theorem or_pow {a g : Nat} (h : a < 2 ^ g) : a ||| 2 ^ g = a + 2 ^ g := by
  have e := Nat.two_pow_add_eq_or_of_lt h 1
  rw [Nat.mul_one] at e
  rw [Nat.or_comm, ← e]
  omega
theorem nI_orbit {a g : Nat} (h : a < 2 ^ g) (hg : g < 31) : nI a ||| (nI 1 <<< (nI g &&& 31)) = nI (a + 2 ^ g) := by
  have h2 : 2 ^ g < 2 ^ 32 := Nat.pow_lt_pow_right (by decide) (by omega)
  rw [nI_shl hg (by omega), nI_or, Nat.one_mul, or_pow h]
/-- an answer that may be none -/
def oI (o : Option Nat) : Int32 := match o with
  | none => -4
  | some k => nI k
def sOwes (k q : Nat) : Nat := if k = 1 then q / 2 else if k = 2 then 2 * q else if k = 3 then 2 * q + 3 else q
def tOwes (T : Tw) (g : Nat) : Nat := sOwes (T.1 (g * 6 + 0)) (T.1 (g * 6 + 1))
/-- another of his deed; of his deed, without remorse -/
def tOth (T : Tw) (g : Nat) : Nat → Bool := fun o => decide (T.1 (o * 6 + 3) = T.1 (g * 6 + 3)) && decide (¬ o = g)
def tRue (T : Tw) (g : Nat) : Nat → Bool := fun o => !(decide (T.1 (o * 6 + 3) = T.1 (g * 6 + 3)) && decide (T.1 (o * 6 + 4) = 0))
def tHalv (T : Tw) (g : Nat) : Bool := sAll (tRue T g) T.2.2.2.1 && decide (0 < sCnt (tOth T g) T.2.2.2.1)
def tShare (T : Tw) (g : Nat) : Nat := if tHalv T g = true then (tOwes T g + 1) / 2 else tOwes T g
def tGives (T : Tw) (g : Nat) : Nat := tShare T g - T.1 (g * 6 + 5)
theorem tOwes_le {T : Tw} (h : okT T) {g : Nat} (hg : g < 4) : tOwes T g ≤ 21 := by
  have h1 := (h.2.1 g hg).2.1
  unfold tOwes sOwes
  split
  · omega
  · split
    · omega
    · split <;> omega
theorem tShare_le {T : Tw} (h : okT T) {g : Nat} (hg : g < 4) : tShare T g ≤ 21 := by
  have h1 := tOwes_le h hg
  unfold tShare
  split <;> omega
theorem tGives_le {T : Tw} (h : okT T) {g : Nat} (hg : g < 4) : tGives T g ≤ 21 := by
  have h1 := tShare_le h hg
  unfold tGives
  omega
/-- he who has most, the first of several; none where nobody has any: what is seen of the first k -/
def sMost (f : Nat → Nat) : Nat → Option Nat × Nat
  | 0 => (none, 0)
  | k + 1 => if (sMost f k).2 < f k then (some k, f k) else sMost f k
theorem sMost_le {f : Nat → Nat} {c : Nat} : ∀ {n : Nat}, (∀ k, k < n → f k ≤ c) → (sMost f n).2 ≤ c
  | 0, _ => Nat.zero_le _
  | n + 1, h => by
    have h1 := sMost_le (n := n) (fun k hk => h k (by omega))
    have h2 := h n (by omega)
    simp only [sMost]
    split
    · exact h2
    · exact h1
theorem cpy_all {f g : Nat → Int32} {z j : Nat} (hz : z < 2 ^ 31) (hj : j < z) : va_cpy f g (nI 0).toNatClampNeg (nI 0).toNatClampNeg (nI z).toNatClampNeg j = f j := by
  have e0 : (nI 0).toNatClampNeg = 0 := by decide
  rw [e0, nI_clamp hz]
  simp only [va_cpy]
  rw [if_pos ⟨Nat.zero_le _, by omega⟩]
  simp
