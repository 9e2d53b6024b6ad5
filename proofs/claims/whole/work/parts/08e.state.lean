/-! WHAT THE CALLS ANSWER, 5 -/
theorem w_nm {G : gb_G} {X : gb_X} {nL : Nat} {Q : Option Value → gb_M → Prop} {pc : Nat} {lv : List (Nat × Value)} {st : List Value} {M : gb_M} {x : Int32} (k : ∀ y : Int32, y = x → Wm G X nL Q pc lv (.int y :: st) M) : Wm G X nL Q pc lv (.int x :: st) M := k x rfl
def ushI (x : Int32) (k : Nat) : Int32 := (x.toUInt32 >>> ((nI k).toUInt32 &&& Int32.toUInt32 31)).toInt32
def bc1 (x : Int32) : Int32 := x - (ushI x 1 &&& 1431655765)
def bc2 (x : Int32) : Int32 := (x &&& 858993459) + (ushI x 2 &&& 858993459)
def bc3 (x : Int32) : Int32 := (x + ushI x 4) &&& 252645135
def bc4 (x : Int32) : Int32 := x + ushI x 8
def bc5 (x : Int32) : Int32 := x + ushI x 16
def bcI (x : Int32) : Int32 := bc5 (bc4 (bc3 (bc2 (bc1 x)))) &&& nI 63
theorem bcI_ok : ∀ k, k < 16 → bcI (nI k) = nI (bc k) := by decide +kernel
theorem le_oI {b : Nat} {o : Option (Nat × Nat)} (hb : b ≤ 4) (ho : ∀ q, o = some q → q.1 ≤ 4) : nI b ≤ oI (o.map (·.1)) ↔ ∃ q, o = some q ∧ b ≤ q.1 := by
  cases o with
  | none =>
    refine ⟨fun h => ?_, fun ⟨q, h, _⟩ => by cases h⟩
    have h1 := Int32.le_iff_toInt_le.mp h
    rw [nI_toInt (by omega)] at h1
    have e : (oI (Option.map (fun q : Nat × Nat => q.1) none)).toInt = -4 := by decide
    omega
  | some q =>
    have hq := ho q rfl
    show nI b ≤ nI q.1 ↔ _
    rw [nI_leI (by omega) (by omega)]
    exact ⟨fun h => ⟨q, rfl, h⟩, fun ⟨q2, h, h2⟩ => by cases h; exact h2⟩
theorem pow4 {n : Nat} (h : n ≤ 4) : 2 ^ n ≤ 16 := Nat.pow_le_pow_right (show 0 < 2 by decide) h
def stepI (s : Int32) : Int32 := s * 1103515245 + nI 12345
def sbN (s : Int32) : Nat := (s >>> (nI 16 &&& 31)).toBitVec.toNat % 2 ^ 15
theorem sbN_ok (s : Int32) : s >>> (nI 16 &&& 31) &&& nI 32767 = nI (sbN s) := pk_and _ 15 (by decide)
theorem sbN_le (s : Int32) : sbN s < 32768 := Nat.mod_lt _ (by decide)
/-- one cast by the seed -/
def dStep (q : Int32 × Tw) : Int32 × Tw := (stepI (stepI q.1), (upN q.2.1 (sbN (stepI q.1) % q.2.2.2.2.1 * 6 + 1) (sbN (stepI (stepI q.1)) % 10), q.2.2))
def dRun (T : Tw) (s : Int32) : Nat → Int32 × Tw
  | 0 => (s, T)
  | k + 1 => dStep (dRun T s k)
def dVal (x : Nat) (V : Tw) : Nat := if x = 0 then (if tTrue V = true then 1 else 0) else (pNote (bAm V) (bWt V)).getD 0
def drOk (n x : Int32) : Bool := wIn n (nI 1) (nI 60) && wIn x (nI 0) (nI 1)
def a_drift (T : Tw) (s n x : Int32) : Int32 := if drOk n x = true then (if T.2.2.2.1 = 0 then -2 else nI (sSum (fun k => dVal x.toNatClampNeg (dRun T s (k + 1)).2) n.toNatClampNeg)) else -1
theorem dRun_ok {T : Tw} (ok : okT T) (hn : 0 < T.2.2.2.1) (s : Int32) : ∀ k, okT (dRun T s k).2 ∧ (dRun T s k).2.2 = T.2
  | 0 => ⟨ok, rfl⟩
  | k + 1 => by
    have h := dRun_ok ok hn s k
    have h4 := ok.1
    refine ⟨?_, h.2⟩
    show okT (upN _ (_ * 6 + 1) _, _)
    refine gft_ok h.1 ?_ ?_
    · rw [h.2]
      exact Nat.lt_of_lt_of_le (Nat.mod_lt _ hn) h4
    · have := Nat.mod_lt (sbN (stepI (stepI (dRun T s k).1))) (show 0 < 10 by decide)
      omega
theorem max0_oI {p : Option Nat} (hp : ∀ k, p = some k → k < 2 ^ 31) : (if nI 0 < oI p then oI p else nI 0) = nI (p.getD 0) := by
  cases p with
  | none => decide
  | some k =>
    have hk := hp k rfl
    show (if nI 0 < nI k then nI k else nI 0) = nI k
    by_cases e : 0 < k
    · rw [if_pos (nI_lt e hk)]
    · rw [show k = 0 by omega]
      rfl
