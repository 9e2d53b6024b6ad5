/-! the guesses' cells -/
def isG (G : gb_G) (M : gb_M) (st sf : Nat → Nat) (sn ft : Nat) (ln : Option Nat) (lo hi le gi mo gu : Nat → Nat) (ts am : Nat → Int32) (gv : Nat) (tl : Bool) : Prop :=
  M 19 = .inr (0, [.ref (gb_ad G 20), .ref (gb_ad G 21), .int (nI sn), .int (nI ft), .int (oI ln), .ref (gb_ad G 22), .ref (gb_ad G 23), .ref (gb_ad G 24), .ref (gb_ad G 25), .ref (gb_ad G 26), .ref (gb_ad G 27), .ref (gb_ad G 28), .ref (gb_ad G 29), .int (nI gv), .int (bI tl)]) ∧
  M 20 = IN G 6 st ∧ M 21 = IN G 6 sf ∧ M 22 = IN G 4 lo ∧ M 23 = IN G 4 hi ∧ M 24 = IN G 90 le ∧ M 25 = IN G 40 gi ∧ M 26 = IN G 4 mo ∧ M 27 = IN G 4 gu ∧ M 28 = IA G 3 ts ∧ M 29 = IA G 4 am
def sMaxv (f : Nat → Nat) : Nat → Nat
  | 0 => 0
  | k + 1 => max (sMaxv f k) (f k)
theorem sMaxv_le {f : Nat → Nat} {c : Nat} : ∀ {n : Nat}, (∀ k, k < n → f k ≤ c) → sMaxv f n ≤ c
  | 0, _ => Nat.zero_le _
  | n + 1, h => Nat.max_le.mpr ⟨sMaxv_le (n := n) (fun k hk => h k (by omega)), h n (by omega)⟩
theorem sMaxv_cong {f g : Nat → Nat} : ∀ {n : Nat}, (∀ k, k < n → f k = g k) → sMaxv f n = sMaxv g n
  | 0, _ => rfl
  | n + 1, h => by simp only [sMaxv]; rw [sMaxv_cong (fun k hk => h k (by omega)), h n (by omega)]
/-- what is known when the numbers below c have been gone through -/
def gFold (T : Tw) (F : Nat → Bool) (tl : Bool) (c ft : Nat) (ln : Option Nat) (lo hi le : Nat → Nat) : Prop :=
  ft = sCnt F c ∧ ln = sFirst F c ∧ (∀ g, g < T.2.2.2.1 → lo g = sLow F (fun c => dig T.2.2.2.1 c g) c ∧ hi g = sHigh F (fun c => dig T.2.2.2.1 c g) c) ∧ ∀ k, k < 90 → le k = if tl = true then sCnt (tellC T F k) c else 0
/-- what stands in the sums: the first g have given by dg -/
def gMid (T : Tw) (dg : Nat → Nat) (g : Nat) (ts am : Nat → Int32) : Prop := (∀ r, r < 3 → ts r = nI (gSum T dg g r)) ∧ ∀ m, m < 3 → am m = nI (gMet T dg g m + T.2.1 m) - nI (T.2.2.1 m)
/-- the gifts and metals, worked out -/
def gTab (T : Tw) (gi mo : Nat → Nat) : Prop := (∀ g, g < T.2.2.2.1 → mo g = T.1 (g * 6 + 2)) ∧ ∀ g v, g < T.2.2.2.1 → v < 10 → gi (g * 10 + v) = gft T g v
theorem fold_no {T : Tw} {F : Nat → Bool} {tl : Bool} {c ft : Nat} {ln : Option Nat} {lo hi le : Nat → Nat} (h : gFold T F tl c ft ln lo hi le) (hF : F c = false) : gFold T F tl (c + 1) ft ln lo hi le := by
  obtain ⟨h1, h2, h3, h4⟩ := h
  refine ⟨by simp [sCnt, hF, h1], ?_, fun g hg => ?_, fun k hk => ?_⟩
  · rw [h2]
    simp only [sFirst, hF]
    by_cases q : (sFirst F c).isSome = true
    · rw [if_pos q]
    · rw [if_neg q]
      cases e : sFirst F c with
      | none => simp
      | some x => rw [e] at q; simp at q
  · simp only [sLow, sHigh, hF]
    exact h3 g hg
  · rw [h4 k hk]
    simp [sCnt, tellC, hF]
theorem fold_yes {T : Tw} {F : Nat → Bool} {tl : Bool} {c ft : Nat} {ln : Option Nat} {lo hi le lo2 hi2 le2 : Nat → Nat} (h : gFold T F tl c ft ln lo hi le) (hF : F c = true) (hl : ∀ g, g < T.2.2.2.1 → lo2 g = min (lo g) (dig T.2.2.2.1 c g) ∧ hi2 g = max (hi g) (dig T.2.2.2.1 c g)) (hk : ∀ k, k < 90 → le2 k = if tl = true then le k + (if tTap (setG T (dig T.2.2.2.1 c)) (k / 10) = k % 10 then 1 else 0) else le k) : gFold T F tl (c + 1) (ft + 1) (if ft = 0 then some c else ln) lo2 hi2 le2 := by
  obtain ⟨h1, h2, h3, h4⟩ := h
  refine ⟨by simp [sCnt, hF, h1], ?_, fun g hg => ?_, fun k hk2 => ?_⟩
  · have e := sFirst_none (F := F) c
    simp only [sFirst, hF]
    by_cases q : ft = 0
    · rw [if_pos q, if_neg (fun z => by have := e.mp z; omega)]
      simp
    · rw [if_neg q, if_pos (e.mpr (by omega)), h2]
  · simp only [sLow, sHigh, hF, if_true]
    exact ⟨by rw [(hl g hg).1, (h3 g hg).1], by rw [(hl g hg).2, (h3 g hg).2]⟩
  · rw [hk k hk2, h4 k hk2]
    by_cases q : tl = true
    · simp [q, sCnt, tellC, hF]
    · simp [q]
theorem i32_back (a x c : Int32) : a + x * c + -x * c = a := by
  rw [Int32.neg_mul, Int32.add_assoc, Int32.add_right_neg, Int32.add_zero]
theorem i32_back1 (a x : Int32) : a + x + -x = a := by
  rw [Int32.add_assoc, Int32.add_right_neg, Int32.add_zero]
theorem up_fillA (f r : Nat → Int32) (i : Nat) : upd (fun k => if k < i then f k else r k) i (f i) = fun k => if k < i + 1 then f k else r k := by
  funext k
  simp only [upd]
  by_cases h : k = i
  · subst h
    simp
  · rw [if_neg h]
    by_cases h2 : k < i
    · rw [if_pos h2, if_pos (by omega)]
    · rw [if_neg h2, if_neg (by omega)]
theorem arr_same {m1 : gb_M} {a z : Nat} {cA : ClassId} {r : Nat → Int32} (r' : Nat → Int32) (ha : m1 a = .inl (cA, z, .inl r)) (h : ∀ j, j < z → r j = r' j) : gb_same m1 (va_up m1 a (.inl (cA, z, .inl r'))) := fun k => by
  by_cases e : k = a
  · subst e
    exact Or.inr ⟨cA, z, r, r', ha, va_up_self _ _ _, h⟩
  · exact Or.inl (va_up_ne _ _ e).symm
