/-! A TEXT -/
def Z0 : Sc := ((fun _ => 0, fun _ => 0, fun _ => 0, 0, 6, 0, 0), 0, 0, 0, false)
def noB (Z : Sc) : Bool := decide (¬ (nI Z.2.1 ||| nI Z.2.2.1) >>> (nI Z.1.2.2.2.1 &&& 31) = 0)
def okZ (Z : Sc) : Prop := okT Z.1 ∧ Z.1.2.2.2.2.2.2 = 0 ∧ Z.2.1 < 16 ∧ Z.2.2.1 < 16 ∧ Z.2.2.2.1 < 16
def pTx (bs : Nat → Nat) (ln : Nat) : Nat → Sc → Nat → Nat → (Nat × Nat) × Nat × Sc
  | 0, Z, _, l => ((0, 0), l, Z)
  | k + 1, Z, p, l => if tkS bs ln p = 0 then ((1, tkB bs ln p), l, Z) else if tkS bs ln p = 1 then ((if noB Z = true then 6 else 0, ln), l, Z) else if (fLin bs ln Z (tkS bs ln p) (tkB bs ln p) (tkE bs ln p)).1 = 0 then pTx bs ln k (uLin bs ln Z (tkS bs ln p) (tkB bs ln p) (tkE bs ln p)) (eLin bs ln (tkS bs ln p) (tkB bs ln p) (tkE bs ln p)) (l + 1) else (fLin bs ln Z (tkS bs ln p) (tkB bs ln p) (tkE bs ln p), l + 1, Z)
def tx (bs : Nat → Nat) (ln : Nat) : (Nat × Nat) × Nat × Sc := pTx bs ln 161 Z0 0 0
def a_text (bs : Nat → Nat) (ln : Nat) : Int32 := if (tx bs ln).1.1 = 0 then nI (tx bs ln).2.1 else -10 - nI (tx bs ln).1.2
theorem okZ_0 : okZ Z0 := by
  refine ⟨⟨by decide, fun g _ => ⟨Nat.zero_le _, Nat.zero_le _, Nat.zero_le _, Nat.zero_le _, Nat.zero_le _, Nat.zero_le _⟩, fun m _ => ⟨Nat.zero_le _, Nat.zero_le _⟩, by decide, by decide, by decide⟩, rfl, by decide, by decide, by decide⟩
theorem orF_z {x y : Nat × Nat} (h : (orF x y).1 = 0) : x.1 = 0 ∧ y.1 = 0 := by
  unfold orF at h
  split at h
  · rename_i q; exact ⟨q, h⟩
  · rename_i q; exact absurd h q
theorem tlC_z {c t v : Nat} (h : tlC c t v = 0) : c = 0 := by
  unfold tlC at h
  split at h
  · assumption
  · exact h
theorem okZ_wd {bs : Nat → Nat} {ln : Nat} {Z : Sc} {so sa pl : Nat} (ok : okZ Z) (h : (fLin bs ln Z so sa pl).1 = 0) : okZ (uLin bs ln Z so sa pl) := by
  obtain ⟨o1, o2, o3, o4, o5⟩ := ok
  have h1 := (orF_z h).1
  have hk4 := tkK_le bs so sa pl
  unfold uLin uWd
  unfold fWd at h1
  by_cases n0 : wdN bs so sa pl = 0
  · rw [if_pos n0]
    rw [if_pos n0] at h1
    have hk : tkK bs so sa pl < 4 := by
      unfold wdN at n0
      split at n0
      · assumption
      · repeat' split at n0
        all_goals exact absurd n0 (by decide)
    unfold fGiv at h1
    obtain ⟨g1, g2⟩ := orF_z h1
    obtain ⟨g2, g3⟩ := orF_z g2
    obtain ⟨g3, g4⟩ := orF_z g3
    have a0 : ¬ 4 ≤ Z.1.2.2.2.1 := fun q => by
      have : (if 4 ≤ Z.1.2.2.2.1 then 5 else 0) = 0 := g1
      rw [if_pos q] at this; exact absurd this (by decide)
    have a1 := aM_0 g2
    have a2 := aN_0 g3
    have a3 := aN_0 g4
    have b1 := okT_tr o1 (j := Z.1.2.2.2.1) (k := 0) (v := tkK bs so sa pl) (by omega) (by decide) (show tkK bs so sa pl ≤ 3 by omega)
    have b2 := okT_tr b1 (j := Z.1.2.2.2.1) (k := 2) (v := mAt bs ln pl) (by omega) (by decide) a1
    have b3 := okT_tr b2 (j := Z.1.2.2.2.1) (k := 1) (by omega) (by decide) (show tkV bs ln (tkE bs ln pl) ≤ 9 from a2.2.2)
    have b4 := okT_tr b3 (j := Z.1.2.2.2.1) (k := 3) (by omega) (by decide) (show tkV bs ln (tkE bs ln (tkE bs ln pl)) ≤ 3 from a3.2.2)
    exact ⟨⟨(show Z.1.2.2.2.1 + 1 ≤ 4 by omega), b4.2.1, b4.2.2.1, b4.2.2.2.1, b4.2.2.2.2.1, b4.2.2.2.2.2⟩, o2, o3, o4, o5⟩
  · rw [if_neg n0]
    rw [if_neg n0] at h1
    by_cases n1 : wdN bs so sa pl = 1
    · rw [if_pos n1]
      rw [if_pos n1] at h1
      have a1 := aN_0 (tlC_z h1)
      exact ⟨okT_tr o1 (k := 4) (v := 1) (by omega) (by decide) (by decide), o2, tel_lt _ o3 _ (by omega), o4, o5⟩
    · rw [if_neg n1]
      rw [if_neg n1] at h1
      by_cases n2 : wdN bs so sa pl = 2
      · rw [if_pos n2]
        rw [if_pos n2] at h1
        obtain ⟨g1, g2⟩ := orF_z h1
        have a1 := aN_0 (tlC_z g1)
        have a2 := aN_0 g2
        exact ⟨okT_tr o1 (k := 5) (by omega) (by decide) (show tkV bs ln (tkE bs ln pl) ≤ 9 from a2.2.2), o2, o3, tel_lt _ o4 _ (by omega), o5⟩
      · rw [if_neg n2]
        rw [if_neg n2] at h1
        by_cases n3 : wdN bs so sa pl = 3
        · rw [if_pos n3]
          rw [if_pos n3] at h1
          obtain ⟨g1, g2⟩ := orF_z h1
          have a1 := aM_0 (tlC_z g1)
          have a2 := aN_0 g2
          exact ⟨okT_ad o1 a2.2.2, o2, o3, o4, tel_lt _ o5 _ (by omega)⟩
        · rw [if_neg n3]
          rw [if_neg n3] at h1
          by_cases n4 : wdN bs so sa pl = 4
          · rw [if_pos n4]
            rw [if_pos n4] at h1
            obtain ⟨g1, g2⟩ := orF_z h1
            obtain ⟨g2, g3⟩ := orF_z g2
            have a1 := aN_0 g2
            have a2 := aN_0 g3
            exact ⟨⟨o1.1, o1.2.1, o1.2.2.1, a1.2.2, a2.2.2, o1.2.2.2.2.2⟩, o2, o3, o4, o5⟩
          · rw [if_neg n4]
            exact ⟨o1, o2, o3, o4, o5⟩
theorem eWd_ge (bs : Nat → Nat) (ln n pl : Nat) : pl ≤ eWd bs ln n pl := by
  have h1 := tkE_ge bs ln pl
  have h2 := tkB_ge bs ln pl
  have h3 := tkE_ge bs ln (tkE bs ln pl)
  have h4 := tkB_ge bs ln (tkE bs ln pl)
  have h5 := tkE_ge bs ln (tkE bs ln (tkE bs ln pl))
  have h6 := tkB_ge bs ln (tkE bs ln (tkE bs ln pl))
  unfold eWd
  repeat' split
  all_goals omega
theorem eWd_le {bs : Nat → Nat} {ln pl : Nat} (n : Nat) (h : pl ≤ ln) : eWd bs ln n pl ≤ ln := by
  have h1 := tkE_le (bs := bs) h
  have h2 := tkE_le (bs := bs) h1
  have h3 := tkE_le (bs := bs) h2
  unfold eWd
  repeat' split
  all_goals omega
theorem eLin_ge (bs : Nat → Nat) (ln so sa pl : Nat) : pl ≤ eLin bs ln so sa pl := by
  have h1 := eWd_ge bs ln (wdN bs so sa pl) pl
  have h2 := tkE_ge bs ln (eWd bs ln (wdN bs so sa pl) pl)
  have h3 := tkB_ge bs ln (eWd bs ln (wdN bs so sa pl) pl)
  unfold eLin
  omega
theorem eLin_le {bs : Nat → Nat} {ln pl : Nat} (so sa : Nat) (h : pl ≤ ln) : eLin bs ln so sa pl ≤ ln := tkE_le (eWd_le _ h)
theorem tkE_gt {bs : Nat → Nat} {ln p : Nat} (h : ¬ tkS bs ln p = 1) : p < tkE bs ln p := by
  have h1 := tkB_ge bs ln p
  have h2 := tkEb_gt (bs := bs) (ln := ln) (b := tkB bs ln p) h
  unfold tkE
  omega
