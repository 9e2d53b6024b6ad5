/-! PURE: ranges, bits -/
def wIn (v lo hi : Int32) : Bool := decide (lo ≤ v) && decide (v ≤ hi)
theorem wIn_t {x : Int32} {a b : Nat} (hb : b < 2 ^ 31) (h : wIn x (nI a) (nI b) = true) (ha : a ≤ b) : ∃ j : Nat, a ≤ j ∧ j ≤ b ∧ x = nI j := by
  simp only [wIn, Bool.and_eq_true, decide_eq_true_eq] at h
  have h1 := Int32.le_iff_toInt_le.mp h.1
  have h2 := Int32.le_iff_toInt_le.mp h.2
  rw [nI_toInt (by omega)] at h1
  rw [nI_toInt hb] at h2
  refine ⟨x.toInt.toNat, by omega, by omega, ?_⟩
  apply Int32.toInt_inj.mp
  rw [nI_toInt (by omega)]
  omega
theorem wIn_n {j a b : Nat} (hj : j < 2 ^ 31) (hb : b < 2 ^ 31) (ha : a < 2 ^ 31) : wIn (nI j) (nI a) (nI b) = (decide (a ≤ j) && decide (j ≤ b)) := by
  simp only [wIn, nI_leI ha hj, nI_leI hj hb]
/-- is it the number of a giver -/
def isGv (g : Int32) (n : Nat) : Bool := wIn g (nI 0) (nI n - nI 1)
theorem isGv_t {g : Int32} {n : Nat} (hn : n < 2 ^ 30) (h : isGv g n = true) : ∃ j : Nat, j < n ∧ g = nI j := by
  cases n with
  | zero =>
    simp only [isGv, wIn, Bool.and_eq_true, decide_eq_true_eq] at h
    have h1 := Int32.le_iff_toInt_le.mp h.1
    have h2 := Int32.le_iff_toInt_le.mp h.2
    have e0 : (nI 0).toInt = 0 := by decide
    have e1 : (nI 0 - nI 1).toInt = -1 := by decide
    omega
  | succ n =>
    unfold isGv at h
    rw [pk_sub (by omega)] at h
    obtain ⟨j, h1, h2, h3⟩ := wIn_t (by omega) h (by omega)
    exact ⟨j, by omega, h3⟩
theorem isGv_n {j n : Nat} (hn : n < 2 ^ 30) (hj : j < n) : isGv (nI j) n = true := by
  unfold isGv
  rw [pk_sub (by omega), wIn_n (by omega) (by omega) (by omega)]
  simp
  omega
def hasB (a p : Nat) : Bool := decide (a / 2 ^ p % 2 = 1)
theorem okP_gp {T : Tw} (ok : okT T) {pa : Nat → Nat} (hp : okP pa) : okP (fun k => if k < T.2.2.2.1 then tGives T k else pa k) := fun g hg => by
  show (if g < T.2.2.2.1 then tGives T g else pa g) ≤ 40
  have h1 := tGives_le ok hg
  have h2 := hp g hg
  split <;> omega
theorem okT_sk {T : Tw} (ok : okT T) (h : T.2.2.2.2.2.2 < 2000) : okT (T.1, T.2.1, T.2.2.1, T.2.2.2.1, T.2.2.2.2.1, T.2.2.2.2.2.1, T.2.2.2.2.2.2 + 1) := ⟨ok.1, ok.2.1, fun m hm => ⟨(ok.2.2.1 m hm).1, Nat.le_succ_of_le (ok.2.2.1 m hm).2⟩, ok.2.2.2.1, ok.2.2.2.2.1, h⟩
theorem bAm_le {T : Tw} (ok : okT T) (m : Nat) : bAm T m ≤ 200 := mAm_le ok (okP_gives ok) m
theorem bWt_le {T : Tw} (ok : okT T) : bWt T ≤ 600 := mWt_le ok (okP_gives ok) (Nat.le_refl 3)
