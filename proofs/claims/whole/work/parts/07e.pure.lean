/-! PURE: guilts told from taps -/
/-- the town with the guilts dg -/
def setG (T : Tw) (dg : Nat → Nat) : Tw := (fun k => if k % 6 = 1 ∧ k / 6 < T.2.2.2.1 then dg (k / 6) else T.1 k, T.2)
/-- what g gives by the guilt v -/
def gft (T : Tw) (g v : Nat) : Nat := tGives (upN T.1 (g * 6 + 1) v, T.2) g
def tTap (T : Tw) (i : Nat) : Nat := (i * bWt T + sSum (fun g => tGives T g * (1 + (i + g) % 3)) T.2.2.2.1) % 10
/-- the guilts of a number: the first giver's is the highest figure -/
def dig (n c : Nat) : Nat → Nat := fun g => c / 10 ^ (n - 1 - g) % 10
/-- guilts told by the number c: do they fit what is seen -/
def fitB (T : Tw) (st sf : Nat → Nat) (sn c : Nat) : Bool := sAll (fun k => decide (tTap (setG T (dig T.2.2.2.1 c)) (st k) = sf k)) sn
def sFirst (F : Nat → Bool) : Nat → Option Nat
  | 0 => none
  | c + 1 => if (sFirst F c).isSome = true then sFirst F c else if F c = true then some c else none
def sLow (F : Nat → Bool) (v : Nat → Nat) : Nat → Nat
  | 0 => 9
  | c + 1 => if F c = true then min (sLow F v c) (v c) else sLow F v c
def sHigh (F : Nat → Bool) (v : Nat → Nat) : Nat → Nat
  | 0 => 0
  | c + 1 => if F c = true then max (sHigh F v c) (v c) else sHigh F v c
/-- how many that fit tell the figure k % 10 at the tap k / 10 -/
def tellC (T : Tw) (F : Nat → Bool) (k : Nat) : Nat → Bool := fun c => F c && decide (tTap (setG T (dig T.2.2.2.1 c)) (k / 10) = k % 10)
theorem sFirst_none {F : Nat → Bool} : ∀ c, (sFirst F c).isSome = true ↔ 0 < sCnt F c
  | 0 => by simp [sFirst, sCnt]
  | c + 1 => by
    have h := sFirst_none (F := F) c
    simp only [sFirst, sCnt]
    by_cases h1 : (sFirst F c).isSome = true
    · rw [if_pos h1]
      have h2 := h.mp h1
      simp only [h1, true_iff]
      omega
    · rw [if_neg h1]
      have h2 : ¬ 0 < sCnt F c := fun q => h1 (h.mpr q)
      by_cases h3 : F c = true
      · simp [h3]
      · simp [h3]
        omega
theorem sLow_le {F : Nat → Bool} {v : Nat → Nat} : ∀ c, sLow F v c ≤ 9
  | 0 => Nat.le_refl _
  | c + 1 => by
    have h := sLow_le (F := F) (v := v) c
    simp only [sLow]
    split
    · exact Nat.le_trans (Nat.min_le_left _ _) h
    · exact h
theorem sHigh_le {F : Nat → Bool} {v : Nat → Nat} (hv : ∀ c, v c ≤ 9) : ∀ c, sHigh F v c ≤ 9
  | 0 => Nat.zero_le _
  | c + 1 => by
    have h := sHigh_le (F := F) hv c
    have h2 := hv c
    simp only [sHigh]
    split
    · exact Nat.max_le.mpr ⟨h, h2⟩
    · exact h
theorem dig_le (n c g : Nat) : dig n c g ≤ 9 := by
  unfold dig
  omega
theorem setG_at {T : Tw} {dg : Nat → Nat} {g w : Nat} (hw : w < 6) : (setG T dg).1 (g * 6 + w) = if w = 1 ∧ g < T.2.2.2.1 then dg g else T.1 (g * 6 + w) := by
  simp only [setG]
  have h1 : (g * 6 + w) % 6 = w := by omega
  have h2 : (g * 6 + w) / 6 = g := by omega
  rw [h1, h2]
theorem halv_cong {T U : Tw} (hn : U.2.2.2.1 = T.2.2.2.1) (h : ∀ g, U.1 (g * 6 + 3) = T.1 (g * 6 + 3) ∧ U.1 (g * 6 + 4) = T.1 (g * 6 + 4)) (g : Nat) : tHalv U g = tHalv T g := by
  have e1 : tRue U g = tRue T g := by
    funext o
    simp only [tRue, (h o).1, (h o).2, (h g).1]
  have e2 : tOth U g = tOth T g := by
    funext o
    simp only [tOth, (h o).1, (h g).1]
  simp only [tHalv, e1, e2, hn]
theorem gives_setG {T : Tw} {dg : Nat → Nat} {g : Nat} (hg : g < T.2.2.2.1) : tGives (setG T dg) g = gft T g (dg g) := by
  have e1 : tHalv (setG T dg) g = tHalv T g := halv_cong (T := T) (U := setG T dg) rfl (fun o => ⟨(setG_at (by omega)).trans (if_neg (by omega)), (setG_at (by omega)).trans (if_neg (by omega))⟩) g
  have e2 : tHalv (upN T.1 (g * 6 + 1) (dg g), T.2) g = tHalv T g := halv_cong (T := T) (U := (upN T.1 (g * 6 + 1) (dg g), T.2)) rfl (fun o => ⟨upN_ne _ _ (by omega), upN_ne _ _ (by omega)⟩) g
  have a0 : (setG T dg).1 (g * 6 + 0) = T.1 (g * 6 + 0) := by rw [setG_at (by omega), if_neg (by omega)]
  have a1 : (setG T dg).1 (g * 6 + 1) = dg g := by rw [setG_at (by omega), if_pos ⟨rfl, hg⟩]
  have a5 : (setG T dg).1 (g * 6 + 5) = T.1 (g * 6 + 5) := by rw [setG_at (by omega), if_neg (by omega)]
  have b0 : upN T.1 (g * 6 + 1) (dg g) (g * 6 + 0) = T.1 (g * 6 + 0) := upN_ne _ _ (by omega)
  have b1 : upN T.1 (g * 6 + 1) (dg g) (g * 6 + 1) = dg g := upN_self _ _ _
  have b5 : upN T.1 (g * 6 + 1) (dg g) (g * 6 + 5) = T.1 (g * 6 + 5) := upN_ne _ _ (by omega)
  simp only [gft, tGives, tShare, tOwes, e1, e2, a0, a1, a5, b0, b1, b5]
theorem okT_setG {T : Tw} (ok : okT T) {dg : Nat → Nat} (hd : ∀ g, dg g ≤ 9) : okT (setG T dg) := by
  refine ⟨ok.1, fun g hg => ?_, ok.2.2⟩
  have h := ok.2.1 g hg
  have hdg := hd g
  refine ⟨?_, ?_, ?_, ?_, ?_, ?_⟩ <;> rw [setG_at (by omega)] <;> split <;> omega
theorem gft_ok {T : Tw} (ok : okT T) {g v : Nat} (hg : g < 4) (hv : v ≤ 9) : okT (upN T.1 (g * 6 + 1) v, T.2) := by
  refine ⟨ok.1, fun o ho => ?_, ok.2.2⟩
  have h := ok.2.1 o ho
  refine ⟨?_, ?_, ?_, ?_, ?_, ?_⟩ <;> (show upN T.1 _ _ _ ≤ _) <;> unfold upN <;> split <;> omega
theorem gft_le {T : Tw} (ok : okT T) {g v : Nat} (hg : g < 4) (hv : v ≤ 9) : gft T g v ≤ 21 := tGives_le (gft_ok ok hg hv) hg
/-- what stands in the sums when the first g have given by dg -/
def gSum (T : Tw) (dg : Nat → Nat) (g r : Nat) : Nat := sSum (fun o => gft T o (dg o) * (1 + (r + o) % 3)) g
def gMet (T : Tw) (dg : Nat → Nat) (g m : Nat) : Nat := sSum (fun o => if T.1 (o * 6 + 2) = m then gft T o (dg o) else 0) g
theorem gSum_le {T : Tw} (ok : okT T) {dg : Nat → Nat} (hd : ∀ g, dg g ≤ 9) {g r : Nat} (hg : g ≤ 4) : gSum T dg g r ≤ 252 := by
  have h := sSum_le (f := fun o => gft T o (dg o) * (1 + (r + o) % 3)) (c := 63) (n := g) (fun k hk => by
    have h1 := gft_le ok (show k < 4 by omega) (hd k)
    exact Nat.le_trans (Nat.mul_le_mul h1 (show 1 + (r + k) % 3 ≤ 3 by omega)) (by omega))
  unfold gSum
  omega
theorem gMet_le {T : Tw} (ok : okT T) {dg : Nat → Nat} (hd : ∀ g, dg g ≤ 9) {g m : Nat} (hg : g ≤ 4) : gMet T dg g m ≤ 84 := by
  have h := sSum_le (f := fun o => if T.1 (o * 6 + 2) = m then gft T o (dg o) else 0) (c := 21) (n := g) (fun k hk => by
    have h1 := gft_le ok (show k < 4 by omega) (hd k)
    show (if T.1 (k * 6 + 2) = m then gft T k (dg k) else 0) ≤ 21
    split <;> omega)
  unfold gMet
  omega
theorem bell_setG {T : Tw} {dg : Nat → Nat} {m : Nat} : mBell (setG T dg) (tGives (setG T dg)) m = gMet T dg T.2.2.2.1 m + T.2.1 m - T.2.2.1 m := by
  have e : mAmt (setG T dg) (tGives (setG T dg)) m = gMet T dg T.2.2.2.1 m := sSum_cong (fun k hk => by
    show (if (setG T dg).1 (k * 6 + 2) = m then tGives (setG T dg) k else 0) = _
    have e : (setG T dg).1 (k * 6 + 2) = T.1 (k * 6 + 2) := (setG_at (by omega)).trans (if_neg (by omega))
    rw [e, gives_setG (T := T) hk])
  unfold mBell
  rw [e]
  rfl
theorem tap_setG {T : Tw} {dg : Nat → Nat} {i : Nat} : tTap (setG T dg) i = (i * bWt (setG T dg) + gSum T dg T.2.2.2.1 i) % 10 := by
  have e : sSum (fun g => tGives (setG T dg) g * (1 + (i + g) % 3)) (setG T dg).2.2.2.1 = gSum T dg T.2.2.2.1 i := sSum_cong (fun k hk => by
    show tGives (setG T dg) k * _ = _
    rw [gives_setG (T := T) hk])
  unfold tTap
  rw [e]
theorem gSum_mod (T : Tw) (dg : Nat → Nat) (g i : Nat) : gSum T dg g (i % 3) = gSum T dg g i := sSum_cong (fun k hk => by
  show gft T k (dg k) * (1 + (i % 3 + k) % 3) = gft T k (dg k) * (1 + (i + k) % 3)
  rw [show (i % 3 + k) % 3 = (i + k) % 3 by omega])
