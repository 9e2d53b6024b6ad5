/-! PURE: the bell -/
def mAmtI (T : Tw) (pa : Nat → Nat) (i m : Nat) : Nat := sSum (fun g => if T.1 (g * 6 + 2) = m then pa g else 0) i
def mAmt (T : Tw) (pa : Nat → Nat) (m : Nat) : Nat := mAmtI T pa T.2.2.2.1 m
def mBell (T : Tw) (pa : Nat → Nat) (m : Nat) : Nat := mAmt T pa m + T.2.1 m - T.2.2.1 m
def mAm (T : Tw) (pa : Nat → Nat) (m : Nat) : Nat := if m < 3 then mBell T pa m else mAmt T pa m
def mWt (T : Tw) (pa : Nat → Nat) : Nat := sSum (mBell T pa) 3
def pNote (a : Nat → Nat) (w : Nat) : Option Nat := if w = 0 then none else some ((12 * a 0 + 6 * a 1 + 3 * a 2) / w)
def pSweet (a : Nat → Nat) (w : Nat) : Nat := if w = 0 then 0 else 10 * a 2 / w
def pTrue (T : Tw) (a : Nat → Nat) (w : Nat) : Bool := decide (pNote a w = some T.2.2.2.2.1) && decide (T.2.2.2.2.2.1 ≤ pSweet a w)
def bAm (T : Tw) : Nat → Nat := mAm T (tGives T)
def bWt (T : Tw) : Nat := mWt T (tGives T)
def tTrue (T : Tw) : Bool := pTrue T (bAm T) (bWt T)
/-- of which of the first k + 1 there is most, the first of several -/
def sMx (a : Nat → Nat) : Nat → Nat
  | 0 => 0
  | k + 1 => if a (sMx a k) < a (k + 1) then k + 1 else sMx a k
theorem sMx_le (a : Nat → Nat) : ∀ k, sMx a k ≤ k
  | 0 => Nat.le_refl _
  | k + 1 => by
    have h := sMx_le a k
    simp only [sMx]
    split <;> omega
def tStrike (T : Tw) : Tw := if (T.2.2.2.2.2.2 + 1) % 5 = 0 ∧ 0 < bWt T then (T.1, T.2.1, upN T.2.2.1 (sMx (bAm T) 2) (T.2.2.1 (sMx (bAm T) 2) + 1), T.2.2.2.1, T.2.2.2.2.1, T.2.2.2.2.2.1, T.2.2.2.2.2.2 + 1) else (T.1, T.2.1, T.2.2.1, T.2.2.2.1, T.2.2.2.2.1, T.2.2.2.2.2.1, T.2.2.2.2.2.2 + 1)
def okP (pa : Nat → Nat) : Prop := ∀ g, g < 4 → pa g ≤ 40
theorem mAmtI_le {T : Tw} {pa : Nat → Nat} (hp : okP pa) {i m : Nat} (hi : i ≤ 4) : mAmtI T pa i m ≤ 160 := by
  have h := sSum_le (f := fun g => if T.1 (g * 6 + 2) = m then pa g else 0) (c := 40) (n := i) (fun k hk => by
    have := hp k (by omega)
    show (if T.1 (k * 6 + 2) = m then pa k else 0) ≤ 40
    split <;> omega)
  unfold mAmtI
  omega
theorem mBell_le {T : Tw} (ok : okT T) {pa : Nat → Nat} (hp : okP pa) {m : Nat} (hm : m < 3) : mBell T pa m ≤ 200 := by
  have h := mAmtI_le (T := T) (m := m) hp ok.1
  have h2 := ok.2.2.1 m hm
  unfold mBell mAmt
  omega
theorem mWt_le {T : Tw} (ok : okT T) {pa : Nat → Nat} (hp : okP pa) {i : Nat} (hi : i ≤ 3) : sSum (mBell T pa) i ≤ 600 := by
  have h := sSum_le (f := mBell T pa) (c := 200) (n := i) (fun k hk => mBell_le ok hp (by omega))
  omega
theorem mAm_le {T : Tw} (ok : okT T) {pa : Nat → Nat} (hp : okP pa) (m : Nat) : mAm T pa m ≤ 200 := by
  unfold mAm
  split
  · exact mBell_le ok hp (by omega)
  · have h := mAmtI_le (T := T) (m := m) hp ok.1
    unfold mAmt
    omega
theorem mAm_cong {T : Tw} {pa pb : Nat → Nat} (h : ∀ g, g < T.2.2.2.1 → pa g = pb g) : mAm T pa = mAm T pb := by
  have e : ∀ m, mAmt T pa m = mAmt T pb m := fun m => sSum_cong (fun k hk => by
    show (if T.1 (k * 6 + 2) = m then pa k else 0) = (if T.1 (k * 6 + 2) = m then pb k else 0)
    rw [h k hk])
  funext m
  simp only [mAm, mBell, e]
theorem mWt_cong {T : Tw} {pa pb : Nat → Nat} (h : ∀ g, g < T.2.2.2.1 → pa g = pb g) : mWt T pa = mWt T pb := by
  have e : ∀ m, mAmt T pa m = mAmt T pb m := fun m => sSum_cong (fun k hk => by
    show (if T.1 (k * 6 + 2) = m then pa k else 0) = (if T.1 (k * 6 + 2) = m then pb k else 0)
    rw [h k hk])
  exact sSum_cong (fun k hk => by simp only [mBell, e])
theorem okP_gives {T : Tw} (ok : okT T) : okP (tGives T) := fun g hg => by have := tGives_le ok hg; omega
theorem pNote_le {a : Nat → Nat} {w : Nat} (ha : ∀ m, m < 3 → a m ≤ 200) {k : Nat} (h : pNote a w = some k) : k ≤ 5000 := by
  unfold pNote at h
  split at h
  · cases h
  · cases h
    have h0 := ha 0 (by omega)
    have h1 := ha 1 (by omega)
    have h2 := ha 2 (by omega)
    exact Nat.le_trans (Nat.div_le_self _ _) (by omega)
theorem pSweet_le {a : Nat → Nat} {w : Nat} (ha : ∀ m, m < 3 → a m ≤ 200) : pSweet a w ≤ 2000 := by
  have h2 := ha 2 (by omega)
  unfold pSweet
  split
  · omega
  · exact Nat.le_trans (Nat.div_le_self _ _) (by omega)
theorem nI_neg4 {a : Nat} (ha : a < 2 ^ 31) : ¬ (-4 : Int32) = nI a := by
  intro h
  have e := congrArg Int32.toInt h
  rw [nI_toInt ha] at e
  have e4 : (-4 : Int32).toInt = -4 := by decide
  omega
theorem oI_eq {p : Option Nat} {a : Nat} (hp : ∀ k, p = some k → k < 2 ^ 31) (ha : a < 2 ^ 31) : oI p = nI a ↔ p = some a := by
  cases p with
  | none => exact ⟨fun h => absurd h (nI_neg4 ha), fun h => by cases h⟩
  | some k =>
    have hk := hp k rfl
    show nI k = nI a ↔ _
    rw [nI_eq hk ha]
    exact ⟨fun h => by rw [h], fun h => by cases h; rfl⟩
/-- the melt's cells -/
def isM (G : gb_G) (M : gb_M) (pa am : Nat → Nat) (w : Nat) : Prop := M 9 = .inr (1, [.ref (gb_ad G 10), .ref (gb_ad G 11), .int (nI w)]) ∧ M 10 = IN G 4 pa ∧ M 11 = IN G 4 am
def isMx (G : gb_G) (M : gb_M) : Prop := ∃ (pa am : Nat → Nat) (w : Nat), isM G M pa am w ∧ okP pa
theorem isM.keep {G : gb_G} {M M' : gb_M} {pa am : Nat → Nat} {w lo hi : Nat} (h : isM G M pa am w) (s : sm M M' lo hi) (hk : 11 < lo ∨ hi < 9) : isM G M' pa am w := ⟨(s 9 (by omega)).trans h.1, (s 10 (by omega)).trans h.2.1, (s 11 (by omega)).trans h.2.2⟩
theorem upN_fill (f r : Nat → Nat) (i : Nat) : upN (fun k => if k < i then f k else r k) i (f i) = fun k => if k < i + 1 then f k else r k := by
  funext k
  simp only [upN]
  by_cases h : k = i
  · subst h
    simp
  · rw [if_neg h]
    by_cases h2 : k < i
    · rw [if_pos h2, if_pos (by omega)]
    · rw [if_neg h2, if_neg (by omega)]
/-- the bell's own object -/
def isB (G : gb_G) (M : gb_M) (tn : Nat) : Prop := M 0 = .inr (6, [.ref (gb_ad G 1), .ref (gb_ad G 5), .ref (gb_ad G 9), .ref (gb_ad G 12), .ref (gb_ad G 14), .ref (gb_ad G 19), .ref (gb_ad G 30), .ref (gb_ad G 39), .ref (gb_ad G 40), .int (nI tn)])
theorem okT_strike {T : Tw} (ok : okT T) (h : T.2.2.2.2.2.2 < 2000) : okT (tStrike T) := by
  obtain ⟨h1, h2, h3, h4, h5, h6⟩ := ok
  unfold tStrike
  split
  · refine ⟨h1, h2, fun m hm => ⟨(h3 m hm).1, ?_⟩, h4, h5, h⟩
    show upN T.2.2.1 _ _ m ≤ T.2.2.2.2.2.2 + 1
    have h7 := h3 (sMx (bAm T) 2) (by have := sMx_le (bAm T) 2; omega)
    have h8 := h3 m hm
    unfold upN
    split <;> omega
  · refine ⟨h1, h2, fun m hm => ⟨(h3 m hm).1, ?_⟩, h4, h5, h⟩
    show T.2.2.1 m ≤ T.2.2.2.2.2.2 + 1
    have h8 := h3 m hm
    omega
theorem fill_same {G : gb_G} {m1 mM : gb_M} {a z : Nat} {x : Int32} {r1 : Nat → Int32} (ha1 : m1 a = IA G z r1) (hr : ∀ k, k < z → r1 k = x) (hs : ∀ k, k ≠ a → m1 k = mM k) : gb_same m1 (va_up mM a (IA G z (fun _ => x))) := fun k => by
  by_cases h : k = a
  · subst h
    exact Or.inr ⟨gI G, z, _, _, ha1, va_up_self _ _ _, fun j hj => hr j hj⟩
  · exact Or.inl (by rw [va_up_ne _ _ h]; exact hs k h)
