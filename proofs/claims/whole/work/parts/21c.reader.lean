def cO (bs : Nat → Nat) (ln lo hi so e : Nat) : Nat := tlC (aN bs ln lo hi e) so (tkV bs ln e)
def cM (bs : Nat → Nat) (ln last so e : Nat) : Nat := tlC (aM bs ln last e) so (mAt bs ln e)
def aTB (bs : Nat → Nat) (ln p : Nat) : Nat × Nat := (aT bs ln p, tkB bs ln p)
def oF (bs : Nat → Nat) (ln : Nat) (F : Nat × Nat) (c e : Nat) : Nat × Nat := orF F (orF (c, tkB bs ln e) (aTB bs ln (tkE bs ln e)))
def rO (bs : Nat → Nat) (ln : Nat) (F : Nat × Nat) (lo hi so e : Nat) : Nat := if F.1 = 0 ∧ cO bs ln lo hi so e = 0 then tkV bs ln e else lo
def rM (bs : Nat → Nat) (ln : Nat) (F : Nat × Nat) (last so e : Nat) : Nat := if (oF bs ln F (cM bs ln last so e) e).1 = 0 then mAt bs ln e else 0
theorem rO_le {bs : Nat → Nat} {ln : Nat} {F : Nat × Nat} {lo hi so e : Nat} (h : lo ≤ hi) : rO bs ln F lo hi so e ≤ hi := by
  unfold rO
  by_cases z : F.1 = 0 ∧ cO bs ln lo hi so e = 0
  · rw [if_pos z]; exact (aN_0 (tlC_z z.2)).2.2
  · rw [if_neg z]; exact h
theorem rM_le {bs : Nat → Nat} {ln : Nat} {F : Nat × Nat} {last so e : Nat} : rM bs ln F last so e ≤ last := by
  unfold rM
  by_cases z : (oF bs ln F (cM bs ln last so e) e).1 = 0
  · rw [if_pos z]; exact aM_0 (tlC_z (orF_z (orF_z z).2).1)
  · rw [if_neg z]; exact Nat.zero_le _
theorem aT_le (bs : Nat → Nat) (ln p : Nat) : aT bs ln p ≤ 1 := by
  unfold aT
  split <;> decide
theorem nm_met : ∀ k, k < 12 → ∀ l, l < 4 → wIn (nI k - nI 8) (nI 0) (nI l) = decide (nmM (some k) ≤ l) := by decide +kernel
theorem nm_met2 : ∀ k, k < 12 → nmM (some k) ≤ 3 → nI k - nI 8 = nI (nmM (some k)) := by decide +kernel
theorem nm_met0 : ∀ l, l < 4 → wIn (-4 - nI 8) (nI 0) (nI l) = false := by decide +kernel
theorem nm_in {bs : Nat → Nat} {tk b en l : Nat} (hl : l < 4) : wIn (nmI bs tk b en - nI 8) (nI 0) (nI l) = decide (tkM bs (tk + 1) b en ≤ l) ∧ (tkM bs (tk + 1) b en ≤ 3 → nmI bs tk b en - nI 8 = nI (tkM bs (tk + 1) b en)) := by
  by_cases h : tk = 1
  · subst h
    have e := (nm_words (bs := bs) (sa := b) (pl := en) rfl).1
    rw [show 1 + 1 = 2 from rfl, e, show nmI bs 1 b en = oI (nmO bs b en) from if_pos rfl]
    cases o : nmO bs b en with
    | none => exact ⟨(nm_met0 l hl).trans (decide_eq_false (show ¬ 4 ≤ l by omega)).symm, fun z => absurd (show 4 ≤ 3 from z) (by decide)⟩
    | some k => exact ⟨nm_met k (nm_lt o) l hl, fun z => nm_met2 k (nm_lt o) z⟩
  · rw [(no_words (bs := bs) (so := tk + 1) (sa := b) (pl := en) (by omega)).1, show nmI bs tk b en = -4 from if_neg h]
    exact ⟨(nm_met0 l hl).trans (decide_eq_false (show ¬ 4 ≤ l by omega)).symm, fun z => absurd z (by decide)⟩
theorem dI_le {g hw : Nat} (hg : g < 2 ^ 30) (hh : hw < 2 ^ 30) : nI g ≤ dI hw ↔ g < hw := by
  cases hw with
  | zero =>
    refine ⟨fun h => ?_, fun h => absurd h (Nat.not_lt_zero g)⟩
    have h1 := Int32.le_iff_toInt_le.mp h
    rw [nI_toInt (by omega)] at h1
    have h2 : (dI 0).toInt = -1 := by decide
    omega
  | succ k => rw [dI_s, nI_leI (by omega) (by omega)]; omega
set_option maxRecDepth 100000 in
set_option maxHeartbeats 4000000 in
theorem f_X7_otherT {G : gb_G} (hW : gW G) {Q : Option Value → gb_M → Prop} {mM : gb_M} {Y : Nat → Int32} {bs rp : Nat → Nat} {ln rg : Nat} {ia : Bool} {ht ad hw ba tk va e : Nat} (hR : isR G mM Y bs rp ln rg ia ht ad hw 0 ba (tkE bs ln e) (tkB bs ln e) tk va) (hln : ln ≤ 160) (hbs : ∀ k, k < ln → bs k ≤ 127) (hel : e ≤ ln) (htk : tk + 1 = tkS bs ln e) (htv : tkS bs ln e = 3 → va = tkV bs ln e) (hva9 : va ≤ 99) {lo hi so : Nat} (hlo : lo ≤ 40) (hhi : hi ≤ 40) (hso : so < 16) (hsh : ¬ so = 0 → hi ≤ 3)  (hQ : ∀ M', PM G M' Y bs rp ln rg ia ht ad hw (oF bs ln (0, 0) (cO bs ln lo hi so e) e) (tkE bs ln e) → sm mM M' 49 49 → Q (some (.int (nI (rO bs ln (0, 0) lo hi so e)))) M') : Fn G 2 yX7_other cX7_other 5 (some .int) [.ref (gb_ad G 49), .int (nI (lo)), .int (nI (hi)), .int (nI (so))] mM Q := by
  have hE1 := tkE_ge bs ln e
  have hE2 := tkE_le (bs := bs) hel
  have hS4 := tkS_le bs ln e
  have hB1 := tkB_ge bs ln e
  have hN := hW.2.2.1
  refine Fn.of hW.1 [(0, .ref (gb_ad G 49)), (1, .int (nI (lo))), (2, .int (nI (hi))), (3, .int (nI (so)))] (by decide) (Nat.le_of_ble_eq_true rfl) rfl ?_
  intro X O
  refine w_aload_n (n := 1) O dX7_other_0 rfl rfl rfl ?_
  refine w_getf (n := 4) O 11 dX7_other_1 (by omega) hR.1 rfl (by decide) uX7 uf_X7_57 rfl rfl ?_
  refine w_if_neN (n := 7) (tgt := 20) O dX7_other_4 (by omega) (by decide) rfl (fun c_1 => by omega) (fun c_1 => ?_)
  refine w_aload_n (n := 8) O dX7_other_7 rfl rfl rfl ?_
  refine w_getf (n := 11) O 15 dX7_other_8 (by omega) hR.1 rfl (by decide) uX7 uf_X7_66 rfl rfl ?_
  refine w_iconst (n := 12) O dX7_other_11 (v := (nI 2)) (by decide) rfl ?_
  refine w_icmp_eqN (n := 15) (tgt := 20) O dX7_other_12 (by omega) (by omega) (by decide) rfl (fun c_2 => ?_) (fun c_2 => ?_)
  · skip
    refine w_aload_n (n := 21) O dX7_other_20 rfl rfl rfl ?_
    refine w_getf (n := 24) O 11 dX7_other_21 (by omega) hR.1 rfl (by decide) uX7 uf_X7_57 rfl rfl ?_
    refine w_if_neN (n := 27) (tgt := 47) O dX7_other_24 (by omega) (by decide) rfl (fun c_3 => by omega) (fun c_3 => ?_)
    refine w_aload_n (n := 28) O dX7_other_27 rfl rfl rfl ?_
    refine w_getf (n := 31) O 16 dX7_other_28 (by omega) hR.1 rfl (by decide) uX7 uf_X7_76 rfl rfl ?_
    refine w_i2l (n := 32) O dX7_other_31 rfl ?_
    refine w_iload_n (n := 33) O dX7_other_32 rfl rfl rfl ?_
    refine w_i2l (n := 34) O dX7_other_33 rfl ?_
    refine w_iload_n (n := 35) O dX7_other_34 rfl rfl rfl ?_
    refine w_i2l (n := 36) O dX7_other_35 rfl ?_
    refine w_cS (n := 39) (ro := some (.int (bI (wIn (nI (va)) (nI (lo)) (nI (hi)))))) (R := fun mM' => mM = mM') (st := []) (st1 := [.int (bI (wIn (nI (va)) (nI (lo)) (nI (hi))))]) (As := [.long ((nI (va)).toInt64), .long ((nI (lo)).toInt64), .long ((nI (hi)).toInt64)]) O dX7_other_36 ul_X7_50 um_X7_in (f_X7_in (x := (nI (va))) (y := (nI (lo))) (z := (nI (hi))) hW rfl rfl rfl ⟨rfl, rfl⟩) rfl rfl rfl (by decide) (Nat.le_of_ble_eq_true rfl) rfl (fun mhM_4 hM_4 => ?_)
    subst hM_4
    refine w_if_neB (n := 42) (tgt := 47) O dX7_other_39 (by decide) rfl (fun c_5 => ?_) (fun c_5 => ?_)
    · skip
      refine w_aload_n (n := 48) O dX7_other_47 rfl rfl rfl ?_
      refine w_getf (n := 51) O 11 dX7_other_48 (by omega) hR.1 rfl (by decide) uX7 uf_X7_57 rfl rfl ?_
      refine w_if_neN (n := 54) (tgt := 75) O dX7_other_51 (by omega) (by decide) rfl (fun c_6 => by omega) (fun c_6 => ?_)
      have hsl := sh_le so va
      refine w_iload_n (n := 55) O dX7_other_54 rfl rfl rfl ?_
      refine w_if_eqN (n := 58) (tgt := 75) O dX7_other_55 (by omega) (by decide) rfl (fun c_7 => ?_) (fun c_7 => ?_)
      · skip
        refine w_aload_n (n := 76) O dX7_other_75 rfl rfl rfl ?_
        refine w_getf (n := 79) O 11 dX7_other_76 (by omega) hR.1 rfl (by decide) uX7 uf_X7_57 rfl rfl ?_
        refine w_if_neN (n := 82) (tgt := 89) O dX7_other_79 (by omega) (by decide) rfl (fun c_8 => by omega) (fun c_8 => ?_)
        refine w_aload_n (n := 83) O dX7_other_82 rfl rfl rfl ?_
        refine w_getf (n := 86) O 16 dX7_other_83 (by omega) hR.1 rfl (by decide) uX7 uf_X7_76 rfl rfl ?_
        refine w_goto (tgt := 90) O dX7_other_86 (by decide) ?_
        refine w_istore (n := 92) (lv' := [(4, .int (nI (va))), (0, .ref (gb_ad G 49)), (1, .int (nI (lo))), (2, .int (nI (hi))), (3, .int (nI (so)))]) O dX7_other_90 (by decide) rfl rfl ?_
        refine w_aload_n (n := 93) O dX7_other_92 rfl rfl rfl ?_
        refine w_cV (n := 96) (ro := none) (R := fun mM' => PM G mM' Y bs rp ln rg ia ht ad hw (aT bs ln (tkE bs ln e), tkB bs ln (tkE bs ln e)) (tkE bs ln e) ∧ sm mM mM' 49 49) (st := []) (st1 := []) (As := []) (b := 49) O dX7_other_93 ul_X7_91 um_X7_step (f_X7_step1 hW ⟨hR.1, hR.2.1, hR.2.2.1, hR.2.2.2.1, hR.2.2.2.2⟩ hln hbs (by omega) (fun M' h1 h2 => ⟨rfl, h1, h2⟩)) rfl (by omega) hR.1 rfl rfl rfl rfl (by omega) (Nat.le_of_ble_eq_true rfl) rfl (fun mhM_9 hM_9 => ?_)
        obtain ⟨⟨bahM_9, sphM_9, hehM_9, tkhM_9, vahM_9, hRhM_9, hLhM_9, he9hM_9⟩, hshM_9⟩ := hM_9
        obtain ⟨hl1hM_9, hl2hM_9, hl3hM_9, hl4hM_9, hl5hM_9, hl6hM_9, hl7hM_9⟩ := id hLhM_9
        refine w_iload (n := 98) O dX7_other_96 rfl rfl ?_
        refine w_iret O dX7_other_98 ?_
        have eS : tkS bs ln e = 3 := by omega
        have eV := htv eS
        have ea : aN bs ln lo hi e = 0 := by unfold aN; rw [if_neg (show ¬ tkS bs ln e = 0 by omega), if_neg (fun z => z eS), if_pos]; have z := c_5; rw [wIn_n (by omega) (by omega) (by omega), eV, Bool.and_eq_true, decide_eq_true_eq, decide_eq_true_eq] at z; exact z
        have ec : cO bs ln lo hi so e = 0 := by unfold cO; rw [ea]; unfold tlC; rw [if_pos rfl, c_7]; exact if_neg (by simp [hasB])
        have eF : oF bs ln (0, 0) (cO bs ln lo hi so e) e = aTB bs ln (tkE bs ln e) := by unfold oF; rw [ec]; rfl
        have er : rO bs ln (0, 0) lo hi so e = va := by unfold rO; rw [ec, if_pos ⟨rfl, rfl⟩]; exact eV.symm
        rw [eF, er] at hQ
        exact hQ _ ⟨_, _, _, _, _, ⟨hRhM_9.1, hRhM_9.2.1, hRhM_9.2.2.1, hRhM_9.2.2.2.1, hRhM_9.2.2.2.2⟩, hLhM_9, hE2⟩ (sm.rf.tr (hshM_9.mono (by omega) (by omega)))
      · skip
        have hv3 : va ≤ 3 := by have z := c_5; rw [wIn_n (by omega) (by omega) (by omega), Bool.and_eq_true, decide_eq_true_eq, decide_eq_true_eq] at z; have := hsh c_7; omega
        refine w_iload_n (n := 59) O dX7_other_58 rfl rfl rfl ?_
        refine w_aload_n (n := 60) O dX7_other_59 rfl rfl rfl ?_
        refine w_getf (n := 63) O 16 dX7_other_60 (by omega) hR.1 rfl (by decide) uX7 uf_X7_76 rfl rfl ?_
        refine w_ishr (n := 64) O dX7_other_63 rfl ?_
        refine w_top (nI (so / 2 ^ va)) (nI_shr (by omega) (by omega)) ?_
        refine w_iconst (n := 65) O dX7_other_64 (v := (nI 1)) (by decide) rfl ?_
        refine w_iand (n := 66) O dX7_other_65 rfl ?_
        refine w_top (nI ((so / 2 ^ va) % 2)) (nI_and1 (by omega)) ?_
        refine w_iconst (n := 67) O dX7_other_66 (v := (nI 1)) (by decide) rfl ?_
        refine w_icmp_neN (n := 70) (tgt := 75) O dX7_other_67 (by omega) (by omega) (by decide) rfl (fun c_10 => ?_) (fun c_10 => ?_)
        · skip
          refine w_aload_n (n := 76) O dX7_other_75 rfl rfl rfl ?_
          refine w_getf (n := 79) O 11 dX7_other_76 (by omega) hR.1 rfl (by decide) uX7 uf_X7_57 rfl rfl ?_
          refine w_if_neN (n := 82) (tgt := 89) O dX7_other_79 (by omega) (by decide) rfl (fun c_11 => by omega) (fun c_11 => ?_)
          refine w_aload_n (n := 83) O dX7_other_82 rfl rfl rfl ?_
          refine w_getf (n := 86) O 16 dX7_other_83 (by omega) hR.1 rfl (by decide) uX7 uf_X7_76 rfl rfl ?_
          refine w_goto (tgt := 90) O dX7_other_86 (by decide) ?_
          refine w_istore (n := 92) (lv' := [(4, .int (nI (va))), (0, .ref (gb_ad G 49)), (1, .int (nI (lo))), (2, .int (nI (hi))), (3, .int (nI (so)))]) O dX7_other_90 (by decide) rfl rfl ?_
          refine w_aload_n (n := 93) O dX7_other_92 rfl rfl rfl ?_
          refine w_cV (n := 96) (ro := none) (R := fun mM' => PM G mM' Y bs rp ln rg ia ht ad hw (aT bs ln (tkE bs ln e), tkB bs ln (tkE bs ln e)) (tkE bs ln e) ∧ sm mM mM' 49 49) (st := []) (st1 := []) (As := []) (b := 49) O dX7_other_93 ul_X7_91 um_X7_step (f_X7_step1 hW ⟨hR.1, hR.2.1, hR.2.2.1, hR.2.2.2.1, hR.2.2.2.2⟩ hln hbs (by omega) (fun M' h1 h2 => ⟨rfl, h1, h2⟩)) rfl (by omega) hR.1 rfl rfl rfl rfl (by omega) (Nat.le_of_ble_eq_true rfl) rfl (fun mhM_12 hM_12 => ?_)
          obtain ⟨⟨bahM_12, sphM_12, hehM_12, tkhM_12, vahM_12, hRhM_12, hLhM_12, he9hM_12⟩, hshM_12⟩ := hM_12
          obtain ⟨hl1hM_12, hl2hM_12, hl3hM_12, hl4hM_12, hl5hM_12, hl6hM_12, hl7hM_12⟩ := id hLhM_12
          refine w_iload (n := 98) O dX7_other_96 rfl rfl ?_
          refine w_iret O dX7_other_98 ?_
          have eS : tkS bs ln e = 3 := by omega
          have eV := htv eS
          have ea : aN bs ln lo hi e = 0 := by unfold aN; rw [if_neg (show ¬ tkS bs ln e = 0 by omega), if_neg (fun z => z eS), if_pos]; have z := c_5; rw [wIn_n (by omega) (by omega) (by omega), eV, Bool.and_eq_true, decide_eq_true_eq, decide_eq_true_eq] at z; exact z
          have ec : cO bs ln lo hi so e = 0 := by unfold cO; rw [ea]; unfold tlC; rw [if_pos rfl, ← eV]; exact if_neg (by rw [show hasB so va = false from decide_eq_false c_10]; decide)
          have eF : oF bs ln (0, 0) (cO bs ln lo hi so e) e = aTB bs ln (tkE bs ln e) := by unfold oF; rw [ec]; rfl
          have er : rO bs ln (0, 0) lo hi so e = va := by unfold rO; rw [ec, if_pos ⟨rfl, rfl⟩]; exact eV.symm
          rw [eF, er] at hQ
          exact hQ _ ⟨_, _, _, _, _, ⟨hRhM_12.1, hRhM_12.2.1, hRhM_12.2.2.1, hRhM_12.2.2.2.1, hRhM_12.2.2.2.2⟩, hLhM_12, hE2⟩ (sm.rf.tr (hshM_12.mono (by omega) (by omega)))
        · skip
          refine w_aload_n (n := 71) O dX7_other_70 rfl rfl rfl ?_
          refine w_iconst (n := 72) O dX7_other_71 (v := (nI 4)) (by decide) rfl ?_
          refine w_cV (n := 75) (ro := none) (R := fun mM' => isR G mM' Y bs rp ln rg ia ht ad hw 4 (tkB bs ln e) (tkE bs ln e) (tkB bs ln e) tk va ∧ sm mM mM' 49 49) (st := []) (st1 := []) (As := [.int (nI 4)]) (b := 49) O dX7_other_72 ul_X7_87 um_X7_fails (f_X7_fails hW ⟨hR.1, hR.2.1, hR.2.2.1, hR.2.2.2.1, hR.2.2.2.2⟩ hln hbs (fun M' h1 h2 => ⟨rfl, h1, h2⟩)) rfl (by omega) hR.1 rfl rfl rfl rfl (by omega) (Nat.le_of_ble_eq_true rfl) rfl (fun mhM_13 hM_13 => ?_)
          obtain ⟨hRhM_13, hshM_13⟩ := hM_13
          refine w_aload_n (n := 76) O dX7_other_75 rfl rfl rfl ?_
          refine w_getf (n := 79) O 11 dX7_other_76 (by omega) hRhM_13.1 rfl (by decide) uX7 uf_X7_57 rfl rfl ?_
          refine w_if_neN (n := 82) (tgt := 89) O dX7_other_79 (by omega) (by decide) rfl (fun c_14 => ?_) (fun c_14 => by omega)
          refine w_iload_n (n := 90) O dX7_other_89 rfl rfl rfl ?_
          refine w_istore (n := 92) (lv' := [(4, .int (nI (lo))), (0, .ref (gb_ad G 49)), (1, .int (nI (lo))), (2, .int (nI (hi))), (3, .int (nI (so)))]) O dX7_other_90 (by decide) rfl rfl ?_
          refine w_aload_n (n := 93) O dX7_other_92 rfl rfl rfl ?_
          refine w_cV (n := 96) (ro := none) (R := fun mM' => mhM_13 = mM') (st := []) (st1 := []) (As := []) (b := 49) O dX7_other_93 ul_X7_91 um_X7_step (f_X7_step0 hW ⟨hRhM_13.1, hRhM_13.2.1, hRhM_13.2.2.1, hRhM_13.2.2.2.1, hRhM_13.2.2.2.2⟩ hln hbs (by decide) (by omega) ⟨rfl, rfl⟩) rfl (by omega) hRhM_13.1 rfl rfl rfl rfl (by omega) (Nat.le_of_ble_eq_true rfl) rfl (fun mhM_15 hM_15 => ?_)
          subst hM_15
          refine w_iload (n := 98) O dX7_other_96 rfl rfl ?_
          refine w_iret O dX7_other_98 ?_
          have eS : tkS bs ln e = 3 := by omega
          have eV := htv eS
          have ea : aN bs ln lo hi e = 0 := by unfold aN; rw [if_neg (show ¬ tkS bs ln e = 0 by omega), if_neg (fun z => z eS), if_pos]; have z := c_5; rw [wIn_n (by omega) (by omega) (by omega), eV, Bool.and_eq_true, decide_eq_true_eq, decide_eq_true_eq] at z; exact z
          have ec : cO bs ln lo hi so e = 4 := by unfold cO; rw [ea]; unfold tlC; rw [if_pos rfl, ← eV]; exact if_pos (decide_eq_true c_10)
          have eF : oF bs ln (0, 0) (cO bs ln lo hi so e) e = (4, tkB bs ln e) := by unfold oF; rw [ec]; rfl
          have er : rO bs ln (0, 0) lo hi so e = lo := by unfold rO; rw [ec]; exact if_neg (fun z => absurd z.2 (by decide))
          rw [eF, er] at hQ
          exact hQ _ ⟨_, _, _, _, _, ⟨hRhM_13.1, hRhM_13.2.1, hRhM_13.2.2.1, hRhM_13.2.2.2.1, hRhM_13.2.2.2.2⟩, ⟨hE1, hE2, by omega, hva9, (show 4 ≤ 6 by decide), (fun _ => rfl), (fun z => absurd z (show ¬ 4 = 0 by decide))⟩, hE2⟩ (sm.rf.tr (hshM_13.mono (by omega) (by omega)))
    · skip
      refine w_aload_n (n := 43) O dX7_other_42 rfl rfl rfl ?_
      refine w_iconst (n := 44) O dX7_other_43 (v := (nI 3)) (by decide) rfl ?_
      refine w_cV (n := 47) (ro := none) (R := fun mM' => isR G mM' Y bs rp ln rg ia ht ad hw 3 (tkB bs ln e) (tkE bs ln e) (tkB bs ln e) tk va ∧ sm mM mM' 49 49) (st := []) (st1 := []) (As := [.int (nI 3)]) (b := 49) O dX7_other_44 ul_X7_87 um_X7_fails (f_X7_fails hW ⟨hR.1, hR.2.1, hR.2.2.1, hR.2.2.2.1, hR.2.2.2.2⟩ hln hbs (fun M' h1 h2 => ⟨rfl, h1, h2⟩)) rfl (by omega) hR.1 rfl rfl rfl rfl (by omega) (Nat.le_of_ble_eq_true rfl) rfl (fun mhM_16 hM_16 => ?_)
      obtain ⟨hRhM_16, hshM_16⟩ := hM_16
      refine w_aload_n (n := 48) O dX7_other_47 rfl rfl rfl ?_
      refine w_getf (n := 51) O 11 dX7_other_48 (by omega) hRhM_16.1 rfl (by decide) uX7 uf_X7_57 rfl rfl ?_
      refine w_if_neN (n := 54) (tgt := 75) O dX7_other_51 (by omega) (by decide) rfl (fun c_17 => ?_) (fun c_17 => by omega)
      refine w_aload_n (n := 76) O dX7_other_75 rfl rfl rfl ?_
      refine w_getf (n := 79) O 11 dX7_other_76 (by omega) hRhM_16.1 rfl (by decide) uX7 uf_X7_57 rfl rfl ?_
      refine w_if_neN (n := 82) (tgt := 89) O dX7_other_79 (by omega) (by decide) rfl (fun c_18 => ?_) (fun c_18 => by omega)
      refine w_iload_n (n := 90) O dX7_other_89 rfl rfl rfl ?_
      refine w_istore (n := 92) (lv' := [(4, .int (nI (lo))), (0, .ref (gb_ad G 49)), (1, .int (nI (lo))), (2, .int (nI (hi))), (3, .int (nI (so)))]) O dX7_other_90 (by decide) rfl rfl ?_
      refine w_aload_n (n := 93) O dX7_other_92 rfl rfl rfl ?_
      refine w_cV (n := 96) (ro := none) (R := fun mM' => mhM_16 = mM') (st := []) (st1 := []) (As := []) (b := 49) O dX7_other_93 ul_X7_91 um_X7_step (f_X7_step0 hW ⟨hRhM_16.1, hRhM_16.2.1, hRhM_16.2.2.1, hRhM_16.2.2.2.1, hRhM_16.2.2.2.2⟩ hln hbs (by decide) (by omega) ⟨rfl, rfl⟩) rfl (by omega) hRhM_16.1 rfl rfl rfl rfl (by omega) (Nat.le_of_ble_eq_true rfl) rfl (fun mhM_19 hM_19 => ?_)
      subst hM_19
      refine w_iload (n := 98) O dX7_other_96 rfl rfl ?_
      refine w_iret O dX7_other_98 ?_
      have eS : tkS bs ln e = 3 := by omega
      have eV := htv eS
      have ec : cO bs ln lo hi so e = 3 := by unfold cO; rw [show aN bs ln lo hi e = 3 by unfold aN; rw [if_neg (show ¬ tkS bs ln e = 0 by omega), if_neg (fun z => z eS), if_neg (fun z => by rw [wIn_n (by omega) (by omega) (by omega), eV, decide_eq_true z.1, decide_eq_true z.2] at c_5; exact absurd c_5 (by decide))]]; rfl
      have eF : oF bs ln (0, 0) (cO bs ln lo hi so e) e = (3, tkB bs ln e) := by unfold oF; rw [ec]; rfl
      have er : rO bs ln (0, 0) lo hi so e = lo := by unfold rO; rw [ec]; exact if_neg (fun z => absurd z.2 (by decide))
      rw [eF, er] at hQ
      exact hQ _ ⟨_, _, _, _, _, ⟨hRhM_16.1, hRhM_16.2.1, hRhM_16.2.2.1, hRhM_16.2.2.2.1, hRhM_16.2.2.2.2⟩, ⟨hE1, hE2, by omega, hva9, (show 3 ≤ 6 by decide), (fun _ => rfl), (fun z => absurd z (show ¬ 3 = 0 by decide))⟩, hE2⟩ (sm.rf.tr (hshM_16.mono (by omega) (by omega)))
  · skip
    refine w_aload_n (n := 16) O dX7_other_15 rfl rfl rfl ?_
    refine w_iconst (n := 17) O dX7_other_16 (v := (nI 2)) (by decide) rfl ?_
    refine w_cV (n := 20) (ro := none) (R := fun mM' => isR G mM' Y bs rp ln rg ia ht ad hw 2 (tkB bs ln e) (tkE bs ln e) (tkB bs ln e) tk va ∧ sm mM mM' 49 49) (st := []) (st1 := []) (As := [.int (nI 2)]) (b := 49) O dX7_other_17 ul_X7_87 um_X7_fails (f_X7_fails hW ⟨hR.1, hR.2.1, hR.2.2.1, hR.2.2.2.1, hR.2.2.2.2⟩ hln hbs (fun M' h1 h2 => ⟨rfl, h1, h2⟩)) rfl (by omega) hR.1 rfl rfl rfl rfl (by omega) (Nat.le_of_ble_eq_true rfl) rfl (fun mhM_20 hM_20 => ?_)
    obtain ⟨hRhM_20, hshM_20⟩ := hM_20
    refine w_aload_n (n := 21) O dX7_other_20 rfl rfl rfl ?_
    refine w_getf (n := 24) O 11 dX7_other_21 (by omega) hRhM_20.1 rfl (by decide) uX7 uf_X7_57 rfl rfl ?_
    refine w_if_neN (n := 27) (tgt := 47) O dX7_other_24 (by omega) (by decide) rfl (fun c_21 => ?_) (fun c_21 => by omega)
    refine w_aload_n (n := 48) O dX7_other_47 rfl rfl rfl ?_
    refine w_getf (n := 51) O 11 dX7_other_48 (by omega) hRhM_20.1 rfl (by decide) uX7 uf_X7_57 rfl rfl ?_
    refine w_if_neN (n := 54) (tgt := 75) O dX7_other_51 (by omega) (by decide) rfl (fun c_22 => ?_) (fun c_22 => by omega)
    refine w_aload_n (n := 76) O dX7_other_75 rfl rfl rfl ?_
    refine w_getf (n := 79) O 11 dX7_other_76 (by omega) hRhM_20.1 rfl (by decide) uX7 uf_X7_57 rfl rfl ?_
    refine w_if_neN (n := 82) (tgt := 89) O dX7_other_79 (by omega) (by decide) rfl (fun c_23 => ?_) (fun c_23 => by omega)
    refine w_iload_n (n := 90) O dX7_other_89 rfl rfl rfl ?_
    refine w_istore (n := 92) (lv' := [(4, .int (nI (lo))), (0, .ref (gb_ad G 49)), (1, .int (nI (lo))), (2, .int (nI (hi))), (3, .int (nI (so)))]) O dX7_other_90 (by decide) rfl rfl ?_
    refine w_aload_n (n := 93) O dX7_other_92 rfl rfl rfl ?_
    refine w_cV (n := 96) (ro := none) (R := fun mM' => mhM_20 = mM') (st := []) (st1 := []) (As := []) (b := 49) O dX7_other_93 ul_X7_91 um_X7_step (f_X7_step0 hW ⟨hRhM_20.1, hRhM_20.2.1, hRhM_20.2.2.1, hRhM_20.2.2.2.1, hRhM_20.2.2.2.2⟩ hln hbs (by decide) (by omega) ⟨rfl, rfl⟩) rfl (by omega) hRhM_20.1 rfl rfl rfl rfl (by omega) (Nat.le_of_ble_eq_true rfl) rfl (fun mhM_24 hM_24 => ?_)
    subst hM_24
    refine w_iload (n := 98) O dX7_other_96 rfl rfl ?_
    refine w_iret O dX7_other_98 ?_
    have ec : cO bs ln lo hi so e = 2 := by unfold cO; rw [show aN bs ln lo hi e = 2 by unfold aN; rw [if_neg (show ¬ tkS bs ln e = 0 by omega), if_pos (by omega)]]; rfl
    have eF : oF bs ln (0, 0) (cO bs ln lo hi so e) e = (2, tkB bs ln e) := by unfold oF; rw [ec]; rfl
    have er : rO bs ln (0, 0) lo hi so e = lo := by unfold rO; rw [ec]; exact if_neg (fun z => absurd z.2 (by decide))
    rw [eF, er] at hQ
    exact hQ _ ⟨_, _, _, _, _, ⟨hRhM_20.1, hRhM_20.2.1, hRhM_20.2.2.1, hRhM_20.2.2.2.1, hRhM_20.2.2.2.2⟩, ⟨hE1, hE2, by omega, hva9, (show 2 ≤ 6 by decide), (fun _ => rfl), (fun z => absurd z (show ¬ 2 = 0 by decide))⟩, hE2⟩ (sm.rf.tr (hshM_20.mono (by omega) (by omega)))
set_option maxRecDepth 100000 in
set_option maxHeartbeats 4000000 in
theorem f_X7_otherF {G : gb_G} (hW : gW G) {Q : Option Value → gb_M → Prop} {mM : gb_M} {Y : Nat → Int32} {bs rp : Nat → Nat} {ln rg : Nat} {ia : Bool} {ht ad hw br ba sp he tk va : Nat} (hR : isR G mM Y bs rp ln rg ia ht ad hw br ba sp he tk va) (hln : ln ≤ 160) (hbs : ∀ k, k < ln → bs k ≤ 127) (hbr : ¬ br = 0) (hb6 : br ≤ 6) {lo hi so : Nat}  (hQ : Q (some (.int (nI lo))) mM) : Fn G 2 yX7_other cX7_other 5 (some .int) [.ref (gb_ad G 49), .int (nI (lo)), .int (nI (hi)), .int (nI (so))] mM Q := by
  have hN := hW.2.2.1
  refine Fn.of hW.1 [(0, .ref (gb_ad G 49)), (1, .int (nI (lo))), (2, .int (nI (hi))), (3, .int (nI (so)))] (by decide) (Nat.le_of_ble_eq_true rfl) rfl ?_
  intro X O
  refine w_aload_n (n := 1) O dX7_other_0 rfl rfl rfl ?_
  refine w_getf (n := 4) O 11 dX7_other_1 (by omega) hR.1 rfl (by decide) uX7 uf_X7_57 rfl rfl ?_
  refine w_if_neN (n := 7) (tgt := 20) O dX7_other_4 (by omega) (by decide) rfl (fun c_1 => ?_) (fun c_1 => absurd c_1 hbr)
  refine w_aload_n (n := 21) O dX7_other_20 rfl rfl rfl ?_
  refine w_getf (n := 24) O 11 dX7_other_21 (by omega) hR.1 rfl (by decide) uX7 uf_X7_57 rfl rfl ?_
  refine w_if_neN (n := 27) (tgt := 47) O dX7_other_24 (by omega) (by decide) rfl (fun c_2 => ?_) (fun c_2 => absurd c_2 hbr)
  refine w_aload_n (n := 48) O dX7_other_47 rfl rfl rfl ?_
  refine w_getf (n := 51) O 11 dX7_other_48 (by omega) hR.1 rfl (by decide) uX7 uf_X7_57 rfl rfl ?_
  refine w_if_neN (n := 54) (tgt := 75) O dX7_other_51 (by omega) (by decide) rfl (fun c_3 => ?_) (fun c_3 => absurd c_3 hbr)
  refine w_aload_n (n := 76) O dX7_other_75 rfl rfl rfl ?_
  refine w_getf (n := 79) O 11 dX7_other_76 (by omega) hR.1 rfl (by decide) uX7 uf_X7_57 rfl rfl ?_
  refine w_if_neN (n := 82) (tgt := 89) O dX7_other_79 (by omega) (by decide) rfl (fun c_4 => ?_) (fun c_4 => absurd c_4 hbr)
  refine w_iload_n (n := 90) O dX7_other_89 rfl rfl rfl ?_
  refine w_istore (n := 92) (lv' := [(4, .int (nI (lo))), (0, .ref (gb_ad G 49)), (1, .int (nI (lo))), (2, .int (nI (hi))), (3, .int (nI (so)))]) O dX7_other_90 (by decide) rfl rfl ?_
  refine w_aload_n (n := 93) O dX7_other_92 rfl rfl rfl ?_
  refine w_cV (n := 96) (ro := none) (R := fun mM' => mM = mM') (st := []) (st1 := []) (As := []) (b := 49) O dX7_other_93 ul_X7_91 um_X7_step (f_X7_step0 hW ⟨hR.1, hR.2.1, hR.2.2.1, hR.2.2.2.1, hR.2.2.2.2⟩ hln hbs hbr (by omega) ⟨rfl, rfl⟩) rfl (by omega) hR.1 rfl rfl rfl rfl (by omega) (Nat.le_of_ble_eq_true rfl) rfl (fun mhM_5 hM_5 => ?_)
  subst hM_5
  refine w_iload (n := 98) O dX7_other_96 rfl rfl ?_
  refine w_iret O dX7_other_98 ?_
  exact hQ
theorem f_X7_other {G : gb_G} (hW : gW G) {Q : Option Value → gb_M → Prop} {mM : gb_M} {Y : Nat → Int32} {bs rp : Nat → Nat} {ln rg : Nat} {ia : Bool} {ht ad hw : Nat} {F : Nat × Nat} {e : Nat} (hP : PM G mM Y bs rp ln rg ia ht ad hw F e) (hln : ln ≤ 160) (hbs : ∀ k, k < ln → bs k ≤ 127) {lo hi so : Nat} (hlo : lo ≤ 40) (hhi : hi ≤ 40) (hso : so < 16) (hsh : ¬ so = 0 → hi ≤ 3)  (hQ : ∀ M', PM G M' Y bs rp ln rg ia ht ad hw (oF bs ln F (cO bs ln lo hi so e) e) (tkE bs ln e) → sm mM M' 49 49 → Q (some (.int (nI (rO bs ln F lo hi so e)))) M') : Fn G 2 yX7_other cX7_other 5 (some .int) [.ref (gb_ad G 49), .int (nI (lo)), .int (nI (hi)), .int (nI (so))] mM Q := by
  obtain ⟨ba, sp, he, tk, va, hR, ⟨h1, h2, h3, h4, h5, h6, h7⟩, hel⟩ := hP
  by_cases hF : F.1 = 0
  · obtain ⟨e1, e2, e3, e4⟩ := h7 hF
    subst e1; subst e2
    rw [hF] at hR
    have eF : oF bs ln F (cO bs ln lo hi so e) e = oF bs ln (0, 0) (cO bs ln lo hi so e) e := by unfold oF; rw [orF_0 hF, orF_0 (show ((0, 0) : Nat × Nat).1 = 0 from rfl)]
    have er : rO bs ln F lo hi so e = rO bs ln (0, 0) lo hi so e := by unfold rO; rw [hF]
    rw [eF, er] at hQ
    exact f_X7_otherT hW hR hln hbs hel e3 e4 h4 hlo hhi hso hsh hQ
  · have eF : oF bs ln F (cO bs ln lo hi so e) e = F := orF_n hF
    have er : rO bs ln F lo hi so e = lo := by unfold rO; exact if_neg (fun z => hF z.1)
    rw [eF, er] at hQ
    exact f_X7_otherF hW hR hln hbs hF h5 (hQ _ ⟨ba, sp, he, tk, va, hR, ⟨h1, h2, h3, h4, h5, h6, fun z => absurd z hF⟩, tkE_le hel⟩ sm.rf)
set_option maxRecDepth 100000 in
set_option maxHeartbeats 4000000 in
theorem f_X7_metalHereT {G : gb_G} (hW : gW G) {Q : Option Value → gb_M → Prop} {mM : gb_M} {Y : Nat → Int32} {bs rp : Nat → Nat} {ln rg : Nat} {ia : Bool} {ht ad hw ba tk va e : Nat} (hR : isR G mM Y bs rp ln rg ia ht ad hw 0 ba (tkE bs ln e) (tkB bs ln e) tk va) (hln : ln ≤ 160) (hbs : ∀ k, k < ln → bs k ≤ 127) (hel : e ≤ ln) (htk : tk + 1 = tkS bs ln e) (htv : tkS bs ln e = 3 → va = tkV bs ln e) (hva9 : va ≤ 99) {last so : Nat} (hla : last < 4) (hso : so < 16)  (hQ : ∀ M', PM G M' Y bs rp ln rg ia ht ad hw (oF bs ln (0, 0) (cM bs ln last so e) e) (tkE bs ln e) → sm mM M' 49 49 → Q (some (.int (nI (rM bs ln (0, 0) last so e)))) M') : Fn G 2 yX7_metalHere cX7_metalHere 4 (some .int) [.ref (gb_ad G 49), .int (nI (last)), .int (nI (so))] mM Q := by
  have hE1 := tkE_ge bs ln e
  have hE2 := tkE_le (bs := bs) hel
  have hS4 := tkS_le bs ln e
  have hB1 := tkB_ge bs ln e
  have hN := hW.2.2.1
  refine Fn.of hW.1 [(0, .ref (gb_ad G 49)), (1, .int (nI (last))), (2, .int (nI (so)))] (by decide) (Nat.le_of_ble_eq_true rfl) rfl ?_
  intro X O
  refine w_aload_n (n := 1) O dX7_metalHere_0 rfl rfl rfl ?_
  refine w_cV (n := 4) (ro := some (.int (nmI bs tk (tkB bs ln e) (tkE bs ln e)))) (R := fun mM' => mM = mM') (st := []) (st1 := [.int (nmI bs tk (tkB bs ln e) (tkE bs ln e))]) (As := []) (b := 49) O dX7_metalHere_1 ul_X7_101 um_X7_nameHere (f_X7_nameHere hW ⟨hR.1, hR.2.1, hR.2.2.1, hR.2.2.2.1, hR.2.2.2.2⟩ hln hbs (by omega) (by omega) (by omega) ⟨rfl, rfl⟩) rfl (by omega) hR.1 rfl rfl rfl rfl (by decide) (Nat.le_of_ble_eq_true rfl) rfl (fun mhM_1 hM_1 => ?_)
  subst hM_1
  refine w_bipush (n := 6) O dX7_metalHere_4 (v := (nI 8)) (by decide) rfl ?_
  refine w_isub (n := 7) O dX7_metalHere_6 rfl ?_
  refine w_istore_n (n := 8) (lv' := [(3, .int (((nmI bs tk (tkB bs ln e) (tkE bs ln e)) - (nI (8))))), (0, .ref (gb_ad G 49)), (1, .int (nI (last))), (2, .int (nI (so)))]) O dX7_metalHere_7 rfl (by decide) rfl rfl ?_
  refine w_aload_n (n := 9) O dX7_metalHere_8 rfl rfl rfl ?_
  refine w_getf (n := 12) O 11 dX7_metalHere_9 (by omega) hR.1 rfl (by decide) uX7 uf_X7_57 rfl rfl ?_
  refine w_if_neN (n := 15) (tgt := 31) O dX7_metalHere_12 (by omega) (by decide) rfl (fun c_2 => by omega) (fun c_2 => ?_)
  refine w_iload_n (n := 16) O dX7_metalHere_15 rfl rfl rfl ?_
  refine w_i2l (n := 17) O dX7_metalHere_16 rfl ?_
  refine w_lconst (n := 18) O dX7_metalHere_17 (v := lN 0) (by decide) rfl ?_
  refine w_iload_n (n := 19) O dX7_metalHere_18 rfl rfl rfl ?_
  refine w_i2l (n := 20) O dX7_metalHere_19 rfl ?_
  refine w_cS (n := 23) (ro := some (.int (bI (wIn (((nmI bs tk (tkB bs ln e) (tkE bs ln e)) - (nI (8)))) (nI 0) (nI (last)))))) (R := fun mM' => mM = mM') (st := []) (st1 := [.int (bI (wIn (((nmI bs tk (tkB bs ln e) (tkE bs ln e)) - (nI (8)))) (nI 0) (nI (last))))]) (As := [.long ((((nmI bs tk (tkB bs ln e) (tkE bs ln e)) - (nI (8)))).toInt64), .long (lN 0), .long ((nI (last)).toInt64)]) O dX7_metalHere_20 ul_X7_50 um_X7_in (f_X7_in (x := (((nmI bs tk (tkB bs ln e) (tkE bs ln e)) - (nI (8))))) (y := (nI 0)) (z := (nI (last))) hW rfl (nI_l (by decide)).symm rfl ⟨rfl, rfl⟩) rfl rfl rfl (by decide) (Nat.le_of_ble_eq_true rfl) rfl (fun mhM_3 hM_3 => ?_)
  subst hM_3
  refine w_if_neB (n := 26) (tgt := 31) O dX7_metalHere_23 (by decide) rfl (fun c_4 => ?_) (fun c_4 => ?_)
  · skip
    have hmw := c_4
    rw [(nm_in (by omega)).1, htk] at hmw
    have hml : mAt bs ln e ≤ last := of_decide_eq_true hmw
    have hmv : (nmI bs tk (tkB bs ln e) (tkE bs ln e)) - (nI (8)) = nI (mAt bs ln e) := by have z := (nm_in (bs := bs) (tk := tk) (b := tkB bs ln e) (en := tkE bs ln e) (l := last) (by omega)).2; rw [htk] at z; exact z (show mAt bs ln e ≤ 3 by omega)
    rw [hmv]
    have hsl := sh_le so (mAt bs ln e)
    refine w_aload_n (n := 32) O dX7_metalHere_31 rfl rfl rfl ?_
    refine w_getf (n := 35) O 11 dX7_metalHere_32 (by omega) hR.1 rfl (by decide) uX7 uf_X7_57 rfl rfl ?_
    refine w_if_neN (n := 38) (tgt := 52) O dX7_metalHere_35 (by omega) (by decide) rfl (fun c_5 => by omega) (fun c_5 => ?_)
    refine w_iload_n (n := 39) O dX7_metalHere_38 rfl rfl rfl ?_
    refine w_iload_n (n := 40) O dX7_metalHere_39 rfl rfl rfl ?_
    refine w_ishr (n := 41) O dX7_metalHere_40 rfl ?_
    refine w_top (nI (so / 2 ^ (mAt bs ln e))) (nI_shr (by omega) (by omega)) ?_
    refine w_iconst (n := 42) O dX7_metalHere_41 (v := (nI 1)) (by decide) rfl ?_
    refine w_iand (n := 43) O dX7_metalHere_42 rfl ?_
    refine w_top (nI ((so / 2 ^ (mAt bs ln e)) % 2)) (nI_and1 (by omega)) ?_
    refine w_iconst (n := 44) O dX7_metalHere_43 (v := (nI 1)) (by decide) rfl ?_
    refine w_icmp_neN (n := 47) (tgt := 52) O dX7_metalHere_44 (by omega) (by omega) (by decide) rfl (fun c_6 => ?_) (fun c_6 => ?_)
    · skip
      refine w_aload_n (n := 53) O dX7_metalHere_52 rfl rfl rfl ?_
      refine w_cV (n := 56) (ro := none) (R := fun mM' => PM G mM' Y bs rp ln rg ia ht ad hw (aT bs ln (tkE bs ln e), tkB bs ln (tkE bs ln e)) (tkE bs ln e) ∧ sm mM mM' 49 49) (st := []) (st1 := []) (As := []) (b := 49) O dX7_metalHere_53 ul_X7_91 um_X7_step (f_X7_step1 hW ⟨hR.1, hR.2.1, hR.2.2.1, hR.2.2.2.1, hR.2.2.2.2⟩ hln hbs (by omega) (fun M' h1 h2 => ⟨rfl, h1, h2⟩)) rfl (by omega) hR.1 rfl rfl rfl rfl (by omega) (Nat.le_of_ble_eq_true rfl) rfl (fun mhM_7 hM_7 => ?_)
      obtain ⟨⟨bahM_7, sphM_7, hehM_7, tkhM_7, vahM_7, hRhM_7, hLhM_7, he9hM_7⟩, hshM_7⟩ := hM_7
      obtain ⟨hl1hM_7, hl2hM_7, hl3hM_7, hl4hM_7, hl5hM_7, hl6hM_7, hl7hM_7⟩ := id hLhM_7
      have hat := aT_le bs ln (tkE bs ln e)
      refine w_aload_n (n := 57) O dX7_metalHere_56 rfl rfl rfl ?_
      refine w_getf (n := 60) O 11 dX7_metalHere_57 (by omega) hRhM_7.1 rfl (by decide) uX7 uf_X7_57 rfl rfl ?_
      refine w_if_neN (n := 63) (tgt := 67) O dX7_metalHere_60 (by omega) (by decide) rfl (fun c_8 => ?_) (fun c_8 => ?_)
      · skip
        refine w_iconst (n := 68) O dX7_metalHere_67 (v := (nI 0)) (by decide) rfl ?_
        refine w_iret O dX7_metalHere_68 ?_
        have ea : aM bs ln last e = 0 := by unfold aM; rw [if_neg (show ¬ tkS bs ln e = 0 by omega), if_pos hml]
        have ec : cM bs ln last so e = 0 := by unfold cM; rw [ea]; unfold tlC; rw [if_pos rfl]; exact if_neg (by rw [show hasB so (mAt bs ln e) = false from decide_eq_false c_6]; decide)
        have eF : oF bs ln (0, 0) (cM bs ln last so e) e = aTB bs ln (tkE bs ln e) := by unfold oF; rw [ec]; rfl
        have er : rM bs ln (0, 0) last so e = 0 := by unfold rM; rw [eF]; exact if_neg c_8
        rw [eF, er] at hQ
        exact hQ _ ⟨_, _, _, _, _, ⟨hRhM_7.1, hRhM_7.2.1, hRhM_7.2.2.1, hRhM_7.2.2.2.1, hRhM_7.2.2.2.2⟩, hLhM_7, hE2⟩ (sm.rf.tr (hshM_7.mono (by omega) (by omega)))
      · skip
        refine w_iload_n (n := 64) O dX7_metalHere_63 rfl rfl rfl ?_
        refine w_goto (tgt := 68) O dX7_metalHere_64 (by decide) ?_
        refine w_iret O dX7_metalHere_68 ?_
        have ea : aM bs ln last e = 0 := by unfold aM; rw [if_neg (show ¬ tkS bs ln e = 0 by omega), if_pos hml]
        have ec : cM bs ln last so e = 0 := by unfold cM; rw [ea]; unfold tlC; rw [if_pos rfl]; exact if_neg (by rw [show hasB so (mAt bs ln e) = false from decide_eq_false c_6]; decide)
        have eF : oF bs ln (0, 0) (cM bs ln last so e) e = aTB bs ln (tkE bs ln e) := by unfold oF; rw [ec]; rfl
        have er : rM bs ln (0, 0) last so e = mAt bs ln e := by unfold rM; rw [eF]; exact if_pos c_8
        rw [eF, er] at hQ
        exact hQ _ ⟨_, _, _, _, _, ⟨hRhM_7.1, hRhM_7.2.1, hRhM_7.2.2.1, hRhM_7.2.2.2.1, hRhM_7.2.2.2.2⟩, hLhM_7, hE2⟩ (sm.rf.tr (hshM_7.mono (by omega) (by omega)))
    · skip
      refine w_aload_n (n := 48) O dX7_metalHere_47 rfl rfl rfl ?_
      refine w_iconst (n := 49) O dX7_metalHere_48 (v := (nI 4)) (by decide) rfl ?_
      refine w_cV (n := 52) (ro := none) (R := fun mM' => isR G mM' Y bs rp ln rg ia ht ad hw 4 (tkB bs ln e) (tkE bs ln e) (tkB bs ln e) tk va ∧ sm mM mM' 49 49) (st := []) (st1 := []) (As := [.int (nI 4)]) (b := 49) O dX7_metalHere_49 ul_X7_87 um_X7_fails (f_X7_fails hW ⟨hR.1, hR.2.1, hR.2.2.1, hR.2.2.2.1, hR.2.2.2.2⟩ hln hbs (fun M' h1 h2 => ⟨rfl, h1, h2⟩)) rfl (by omega) hR.1 rfl rfl rfl rfl (by omega) (Nat.le_of_ble_eq_true rfl) rfl (fun mhM_9 hM_9 => ?_)
      obtain ⟨hRhM_9, hshM_9⟩ := hM_9
      refine w_aload_n (n := 53) O dX7_metalHere_52 rfl rfl rfl ?_
      refine w_cV (n := 56) (ro := none) (R := fun mM' => mhM_9 = mM') (st := []) (st1 := []) (As := []) (b := 49) O dX7_metalHere_53 ul_X7_91 um_X7_step (f_X7_step0 hW ⟨hRhM_9.1, hRhM_9.2.1, hRhM_9.2.2.1, hRhM_9.2.2.2.1, hRhM_9.2.2.2.2⟩ hln hbs (by decide) (by omega) ⟨rfl, rfl⟩) rfl (by omega) hRhM_9.1 rfl rfl rfl rfl (by omega) (Nat.le_of_ble_eq_true rfl) rfl (fun mhM_10 hM_10 => ?_)
      subst hM_10
      have hat := aT_le bs ln (tkE bs ln e)
      refine w_aload_n (n := 57) O dX7_metalHere_56 rfl rfl rfl ?_
      refine w_getf (n := 60) O 11 dX7_metalHere_57 (by omega) hRhM_9.1 rfl (by decide) uX7 uf_X7_57 rfl rfl ?_
      refine w_if_neN (n := 63) (tgt := 67) O dX7_metalHere_60 (by omega) (by decide) rfl (fun c_11 => ?_) (fun c_11 => by omega)
      refine w_iconst (n := 68) O dX7_metalHere_67 (v := (nI 0)) (by decide) rfl ?_
      refine w_iret O dX7_metalHere_68 ?_
      have ea : aM bs ln last e = 0 := by unfold aM; rw [if_neg (show ¬ tkS bs ln e = 0 by omega), if_pos hml]
      have ec : cM bs ln last so e = 4 := by unfold cM; rw [ea]; unfold tlC; rw [if_pos rfl]; exact if_pos (decide_eq_true c_6)
      have eF : oF bs ln (0, 0) (cM bs ln last so e) e = (4, tkB bs ln e) := by unfold oF; rw [ec]; rfl
      have er : rM bs ln (0, 0) last so e = 0 := by unfold rM; rw [eF]; rfl
      rw [eF, er] at hQ
      exact hQ _ ⟨_, _, _, _, _, ⟨hRhM_9.1, hRhM_9.2.1, hRhM_9.2.2.1, hRhM_9.2.2.2.1, hRhM_9.2.2.2.2⟩, ⟨hE1, hE2, by omega, hva9, (show 4 ≤ 6 by decide), (fun _ => rfl), (fun z => absurd z (show ¬ 4 = 0 by decide))⟩, hE2⟩ (sm.rf.tr (hshM_9.mono (by omega) (by omega)))
  · skip
    refine w_aload_n (n := 27) O dX7_metalHere_26 rfl rfl rfl ?_
    refine w_iconst (n := 28) O dX7_metalHere_27 (v := (nI 2)) (by decide) rfl ?_
    refine w_cV (n := 31) (ro := none) (R := fun mM' => isR G mM' Y bs rp ln rg ia ht ad hw 2 (tkB bs ln e) (tkE bs ln e) (tkB bs ln e) tk va ∧ sm mM mM' 49 49) (st := []) (st1 := []) (As := [.int (nI 2)]) (b := 49) O dX7_metalHere_28 ul_X7_87 um_X7_fails (f_X7_fails hW ⟨hR.1, hR.2.1, hR.2.2.1, hR.2.2.2.1, hR.2.2.2.2⟩ hln hbs (fun M' h1 h2 => ⟨rfl, h1, h2⟩)) rfl (by omega) hR.1 rfl rfl rfl rfl (by omega) (Nat.le_of_ble_eq_true rfl) rfl (fun mhM_12 hM_12 => ?_)
    obtain ⟨hRhM_12, hshM_12⟩ := hM_12
    have hmw := c_4
    rw [(nm_in (by omega)).1, htk] at hmw
    have hml : ¬ mAt bs ln e ≤ last := of_decide_eq_false hmw
    refine w_aload_n (n := 32) O dX7_metalHere_31 rfl rfl rfl ?_
    refine w_getf (n := 35) O 11 dX7_metalHere_32 (by omega) hRhM_12.1 rfl (by decide) uX7 uf_X7_57 rfl rfl ?_
    refine w_if_neN (n := 38) (tgt := 52) O dX7_metalHere_35 (by omega) (by decide) rfl (fun c_13 => ?_) (fun c_13 => by omega)
    refine w_aload_n (n := 53) O dX7_metalHere_52 rfl rfl rfl ?_
    refine w_cV (n := 56) (ro := none) (R := fun mM' => mhM_12 = mM') (st := []) (st1 := []) (As := []) (b := 49) O dX7_metalHere_53 ul_X7_91 um_X7_step (f_X7_step0 hW ⟨hRhM_12.1, hRhM_12.2.1, hRhM_12.2.2.1, hRhM_12.2.2.2.1, hRhM_12.2.2.2.2⟩ hln hbs (by decide) (by omega) ⟨rfl, rfl⟩) rfl (by omega) hRhM_12.1 rfl rfl rfl rfl (by omega) (Nat.le_of_ble_eq_true rfl) rfl (fun mhM_14 hM_14 => ?_)
    subst hM_14
    have hat := aT_le bs ln (tkE bs ln e)
    refine w_aload_n (n := 57) O dX7_metalHere_56 rfl rfl rfl ?_
    refine w_getf (n := 60) O 11 dX7_metalHere_57 (by omega) hRhM_12.1 rfl (by decide) uX7 uf_X7_57 rfl rfl ?_
    refine w_if_neN (n := 63) (tgt := 67) O dX7_metalHere_60 (by omega) (by decide) rfl (fun c_15 => ?_) (fun c_15 => by omega)
    refine w_iconst (n := 68) O dX7_metalHere_67 (v := (nI 0)) (by decide) rfl ?_
    refine w_iret O dX7_metalHere_68 ?_
    have ec : cM bs ln last so e = 2 := by unfold cM; rw [show aM bs ln last e = 2 by unfold aM; rw [if_neg (show ¬ tkS bs ln e = 0 by omega), if_neg hml]]; rfl
    have eF : oF bs ln (0, 0) (cM bs ln last so e) e = (2, tkB bs ln e) := by unfold oF; rw [ec]; rfl
    have er : rM bs ln (0, 0) last so e = 0 := by unfold rM; rw [eF]; rfl
    rw [eF, er] at hQ
    exact hQ _ ⟨_, _, _, _, _, ⟨hRhM_12.1, hRhM_12.2.1, hRhM_12.2.2.1, hRhM_12.2.2.2.1, hRhM_12.2.2.2.2⟩, ⟨hE1, hE2, by omega, hva9, (show 2 ≤ 6 by decide), (fun _ => rfl), (fun z => absurd z (show ¬ 2 = 0 by decide))⟩, hE2⟩ (sm.rf.tr (hshM_12.mono (by omega) (by omega)))
set_option maxRecDepth 100000 in
set_option maxHeartbeats 4000000 in
theorem f_X7_metalHereF {G : gb_G} (hW : gW G) {Q : Option Value → gb_M → Prop} {mM : gb_M} {Y : Nat → Int32} {bs rp : Nat → Nat} {ln rg : Nat} {ia : Bool} {ht ad hw br ba sp he tk va : Nat} (hR : isR G mM Y bs rp ln rg ia ht ad hw br ba sp he tk va) (hln : ln ≤ 160) (hbs : ∀ k, k < ln → bs k ≤ 127) (hbr : ¬ br = 0) (hb6 : br ≤ 6) (hhs : he ≤ sp) (hsl : sp ≤ ln) (htk3 : tk ≤ 3) {last so : Nat}  (hQ : Q (some (.int (nI 0))) mM) : Fn G 2 yX7_metalHere cX7_metalHere 4 (some .int) [.ref (gb_ad G 49), .int (nI (last)), .int (nI (so))] mM Q := by
  have hN := hW.2.2.1
  refine Fn.of hW.1 [(0, .ref (gb_ad G 49)), (1, .int (nI (last))), (2, .int (nI (so)))] (by decide) (Nat.le_of_ble_eq_true rfl) rfl ?_
  intro X O
  refine w_aload_n (n := 1) O dX7_metalHere_0 rfl rfl rfl ?_
  refine w_cV (n := 4) (ro := some (.int (nmI bs tk he sp))) (R := fun mM' => mM = mM') (st := []) (st1 := [.int (nmI bs tk he sp)]) (As := []) (b := 49) O dX7_metalHere_1 ul_X7_101 um_X7_nameHere (f_X7_nameHere hW ⟨hR.1, hR.2.1, hR.2.2.1, hR.2.2.2.1, hR.2.2.2.2⟩ hln hbs (by omega) (by omega) (by omega) ⟨rfl, rfl⟩) rfl (by omega) hR.1 rfl rfl rfl rfl (by decide) (Nat.le_of_ble_eq_true rfl) rfl (fun mhM_1 hM_1 => ?_)
  subst hM_1
  refine w_bipush (n := 6) O dX7_metalHere_4 (v := (nI 8)) (by decide) rfl ?_
  refine w_isub (n := 7) O dX7_metalHere_6 rfl ?_
  refine w_istore_n (n := 8) (lv' := [(3, .int (((nmI bs tk he sp) - (nI (8))))), (0, .ref (gb_ad G 49)), (1, .int (nI (last))), (2, .int (nI (so)))]) O dX7_metalHere_7 rfl (by decide) rfl rfl ?_
  refine w_aload_n (n := 9) O dX7_metalHere_8 rfl rfl rfl ?_
  refine w_getf (n := 12) O 11 dX7_metalHere_9 (by omega) hR.1 rfl (by decide) uX7 uf_X7_57 rfl rfl ?_
  refine w_if_neN (n := 15) (tgt := 31) O dX7_metalHere_12 (by omega) (by decide) rfl (fun c_2 => ?_) (fun c_2 => absurd c_2 hbr)
  refine w_aload_n (n := 32) O dX7_metalHere_31 rfl rfl rfl ?_
  refine w_getf (n := 35) O 11 dX7_metalHere_32 (by omega) hR.1 rfl (by decide) uX7 uf_X7_57 rfl rfl ?_
  refine w_if_neN (n := 38) (tgt := 52) O dX7_metalHere_35 (by omega) (by decide) rfl (fun c_3 => ?_) (fun c_3 => absurd c_3 hbr)
  refine w_aload_n (n := 53) O dX7_metalHere_52 rfl rfl rfl ?_
  refine w_cV (n := 56) (ro := none) (R := fun mM' => mM = mM') (st := []) (st1 := []) (As := []) (b := 49) O dX7_metalHere_53 ul_X7_91 um_X7_step (f_X7_step0 hW ⟨hR.1, hR.2.1, hR.2.2.1, hR.2.2.2.1, hR.2.2.2.2⟩ hln hbs hbr (by omega) ⟨rfl, rfl⟩) rfl (by omega) hR.1 rfl rfl rfl rfl (by omega) (Nat.le_of_ble_eq_true rfl) rfl (fun mhM_4 hM_4 => ?_)
  subst hM_4
  refine w_aload_n (n := 57) O dX7_metalHere_56 rfl rfl rfl ?_
  refine w_getf (n := 60) O 11 dX7_metalHere_57 (by omega) hR.1 rfl (by decide) uX7 uf_X7_57 rfl rfl ?_
  refine w_if_neN (n := 63) (tgt := 67) O dX7_metalHere_60 (by omega) (by decide) rfl (fun c_5 => ?_) (fun c_5 => absurd c_5 hbr)
  refine w_iconst (n := 68) O dX7_metalHere_67 (v := (nI 0)) (by decide) rfl ?_
  refine w_iret O dX7_metalHere_68 ?_
  exact hQ
theorem f_X7_metalHere {G : gb_G} (hW : gW G) {Q : Option Value → gb_M → Prop} {mM : gb_M} {Y : Nat → Int32} {bs rp : Nat → Nat} {ln rg : Nat} {ia : Bool} {ht ad hw : Nat} {F : Nat × Nat} {e : Nat} (hP : PM G mM Y bs rp ln rg ia ht ad hw F e) (hln : ln ≤ 160) (hbs : ∀ k, k < ln → bs k ≤ 127) {last so : Nat} (hla : last < 4) (hso : so < 16)  (hQ : ∀ M', PM G M' Y bs rp ln rg ia ht ad hw (oF bs ln F (cM bs ln last so e) e) (tkE bs ln e) → sm mM M' 49 49 → Q (some (.int (nI (rM bs ln F last so e)))) M') : Fn G 2 yX7_metalHere cX7_metalHere 4 (some .int) [.ref (gb_ad G 49), .int (nI (last)), .int (nI (so))] mM Q := by
  obtain ⟨ba, sp, he, tk, va, hR, ⟨h1, h2, h3, h4, h5, h6, h7⟩, hel⟩ := hP
  by_cases hF : F.1 = 0
  · obtain ⟨e1, e2, e3, e4⟩ := h7 hF
    subst e1; subst e2
    rw [hF] at hR
    have eF : oF bs ln F (cM bs ln last so e) e = oF bs ln (0, 0) (cM bs ln last so e) e := by unfold oF; rw [orF_0 hF, orF_0 (show ((0, 0) : Nat × Nat).1 = 0 from rfl)]
    have er : rM bs ln F last so e = rM bs ln (0, 0) last so e := by unfold rM; rw [eF]
    rw [eF, er] at hQ
    exact f_X7_metalHereT hW hR hln hbs hel e3 e4 h4 hla hso hQ
  · have eF : oF bs ln F (cM bs ln last so e) e = F := orF_n hF
    have er : rM bs ln F last so e = 0 := by unfold rM; rw [eF]; exact if_neg hF
    rw [eF, er] at hQ
    exact f_X7_metalHereF hW hR hln hbs hF h5 h1 h2 h3 (hQ _ ⟨ba, sp, he, tk, va, hR, ⟨h1, h2, h3, h4, h5, h6, fun z => absurd z hF⟩, tkE_le hel⟩ sm.rf)
def hwN (hw r : Nat) : Nat := if hw ≤ r then r + 1 else hw
set_option maxRecDepth 100000 in
set_option maxHeartbeats 4000000 in
theorem f_X7_giverHere {G : gb_G} (hW : gW G) {Q : Option Value → gb_M → Prop} {mM : gb_M} {Y : Nat → Int32} {bs rp : Nat → Nat} {ln rg : Nat} {ia : Bool} {ht ad hw : Nat} {F : Nat × Nat} {e : Nat} (hP : PM G mM Y bs rp ln rg ia ht ad hw F e) (hln : ln ≤ 160) (hbs : ∀ k, k < ln → bs k ≤ 127) {so : Nat} (hso : so < 16) (hhw : hw ≤ 4)  (hQ : ∀ M', PM G M' Y bs rp ln rg ia ht ad (hwN hw (rO bs ln F 0 3 so e)) (oF bs ln F (cO bs ln 0 3 so e) e) (tkE bs ln e) → sm mM M' 49 49 → Q (some (.int (nI (rO bs ln F 0 3 so e)))) M') : Fn G 3 yX7_giverHere cX7_giverHere 3 (some .int) [.ref (gb_ad G 49), .int (nI (so))] mM Q := by
  obtain ⟨ba, sp, he, tk, va, hR, hL, hel⟩ := id hP
  have hN := hW.2.2.1
  refine Fn.of hW.1 [(0, .ref (gb_ad G 49)), (1, .int (nI (so)))] (by decide) (Nat.le_of_ble_eq_true rfl) rfl ?_
  intro X O
  refine w_aload_n (n := 1) O dX7_giverHere_0 rfl rfl rfl ?_
  refine w_iconst (n := 2) O dX7_giverHere_1 (v := (nI 0)) (by decide) rfl ?_
  refine w_iconst (n := 3) O dX7_giverHere_2 (v := (nI 3)) (by decide) rfl ?_
  refine w_iload_n (n := 4) O dX7_giverHere_3 rfl rfl rfl ?_
  refine w_cV (n := 7) (ro := some (.int (nI (rO bs ln F 0 3 so e)))) (R := fun mM' => PM G mM' Y bs rp ln rg ia ht ad hw (oF bs ln F (cO bs ln 0 3 so e) e) (tkE bs ln e) ∧ sm mM mM' 49 49) (st := []) (st1 := [.int (nI (rO bs ln F 0 3 so e))]) (As := [.int (nI 0), .int (nI 3), .int (nI (so))]) (b := 49) O dX7_giverHere_4 ul_X7_94 um_X7_other (f_X7_other hW hP hln hbs (by omega) (by omega) (by omega) (fun z => by omega) (fun M' h1 h2 => ⟨rfl, h1, h2⟩)) rfl (by omega) hR.1 rfl rfl rfl rfl (by omega) (Nat.le_of_ble_eq_true rfl) rfl (fun mhM_1 hM_1 => ?_)
  obtain ⟨⟨bahM_1, sphM_1, hehM_1, tkhM_1, vahM_1, hRhM_1, hLhM_1, he9hM_1⟩, hshM_1⟩ := hM_1
  obtain ⟨hl1hM_1, hl2hM_1, hl3hM_1, hl4hM_1, hl5hM_1, hl6hM_1, hl7hM_1⟩ := id hLhM_1
  have hrhM_1 := rO_le (bs := bs) (ln := ln) (F := F) (lo := 0) (hi := 3) (so := so) (e := e) (by decide)
  refine w_istore_n (n := 8) (lv' := [(2, .int (nI (rO bs ln F 0 3 so e))), (0, .ref (gb_ad G 49)), (1, .int (nI (so)))]) O dX7_giverHere_7 rfl (by decide) rfl rfl ?_
  refine w_aload_n (n := 9) O dX7_giverHere_8 rfl rfl rfl ?_
  refine w_iload_n (n := 10) O dX7_giverHere_9 rfl rfl rfl ?_
  refine w_aload_n (n := 11) O dX7_giverHere_10 rfl rfl rfl ?_
  refine w_getf (n := 14) O 7 dX7_giverHere_11 (by omega) hRhM_1.1 rfl (by decide) uX7 uf_X7_98 rfl rfl ?_
  refine w_icmp_le (n := 17) (tgt := 21) O dX7_giverHere_14 (by decide) rfl (fun c_2 => ?_) (fun c_2 => ?_)
  · skip
    refine w_aload_n (n := 22) O dX7_giverHere_21 rfl rfl rfl ?_
    refine w_getf (n := 25) O 7 dX7_giverHere_22 (by omega) hRhM_1.1 rfl (by decide) uX7 uf_X7_98 rfl rfl ?_
    refine w_putf (n := 28) (fs' := [.ref (gb_ad G 50), .int (Y 1), .ref (gb_ad G 51), .int (nI (rg)), .int (bI (ia)), .int (nI (ht)), .int (nI (ad)), .int (dI hw), .ref (gb_ad G 52), .int (nI (ln)), .int (Y 10), .int (nI ((oF bs ln F (cO bs ln 0 3 so e) e).1)), .int (nI (bahM_1)), .int (nI (sphM_1)), .int (nI (hehM_1)), .int (nI (tkhM_1)), .int (nI (vahM_1)), .ref (gb_ad G 53), .ref (gb_ad G 54), .int (Y 19), .int (Y 20), .int (Y 21), .int (Y 22), .ref (gb_ad G 55), .int (Y 24), .ref (gb_ad G 56), .int (Y 26), .ref (gb_ad G 57), .ref (gb_ad G 58), .ref (gb_ad G 59), .ref (gb_ad G 60), .int (Y 31)]) O 7 dX7_giverHere_25 (by omega) hRhM_1.1 rfl (by decide) uX7 uf_X7_98 tyX7 tyX7_ok nmX7 rfl rfl rfl (Nat.le_of_ble_eq_true rfl) rfl rfl ?_
    refine w_iload_n (n := 29) O dX7_giverHere_28 rfl rfl rfl ?_
    refine w_iret O dX7_giverHere_29 ?_
    have eh : hwN hw (rO bs ln F 0 3 so e) = hw := by unfold hwN; exact if_neg (fun z => absurd ((dI_le (by omega) (by omega)).mp c_2) (by omega))
    rw [eh] at hQ
    exact hQ _ ⟨_, _, _, _, _, ⟨(va_up_self _ _ _), ((va_up_ne _ _ (by decide)).trans hRhM_1.2.1), ((va_up_ne _ _ (by decide)).trans hRhM_1.2.2.1), ((va_up_ne _ _ (by decide)).trans hRhM_1.2.2.2.1), ((va_up_ne _ _ (by decide)).trans hRhM_1.2.2.2.2)⟩, hLhM_1, he9hM_1⟩ ((sm.rf.tr (hshM_1.mono (by omega) (by omega))).up (by omega) (by omega))
  · skip
    refine w_iload_n (n := 18) O dX7_giverHere_17 rfl rfl rfl ?_
    refine w_goto (tgt := 25) O dX7_giverHere_18 (by decide) ?_
    refine w_top (dI (rO bs ln F 0 3 so e + 1)) (dI_s _).symm ?_
    refine w_putf (n := 28) (fs' := [.ref (gb_ad G 50), .int (Y 1), .ref (gb_ad G 51), .int (nI (rg)), .int (bI (ia)), .int (nI (ht)), .int (nI (ad)), .int (dI (rO bs ln F 0 3 so e + 1)), .ref (gb_ad G 52), .int (nI (ln)), .int (Y 10), .int (nI ((oF bs ln F (cO bs ln 0 3 so e) e).1)), .int (nI (bahM_1)), .int (nI (sphM_1)), .int (nI (hehM_1)), .int (nI (tkhM_1)), .int (nI (vahM_1)), .ref (gb_ad G 53), .ref (gb_ad G 54), .int (Y 19), .int (Y 20), .int (Y 21), .int (Y 22), .ref (gb_ad G 55), .int (Y 24), .ref (gb_ad G 56), .int (Y 26), .ref (gb_ad G 57), .ref (gb_ad G 58), .ref (gb_ad G 59), .ref (gb_ad G 60), .int (Y 31)]) O 7 dX7_giverHere_25 (by omega) hRhM_1.1 rfl (by decide) uX7 uf_X7_98 tyX7 tyX7_ok nmX7 rfl rfl rfl (Nat.le_of_ble_eq_true rfl) rfl rfl ?_
    refine w_iload_n (n := 29) O dX7_giverHere_28 rfl rfl rfl ?_
    refine w_iret O dX7_giverHere_29 ?_
    have eh : hwN hw (rO bs ln F 0 3 so e) = (rO bs ln F 0 3 so e + 1) := by unfold hwN; exact if_pos (by have z := mt (dI_le (by omega) (by omega)).mpr c_2; omega)
    rw [eh] at hQ
    exact hQ _ ⟨_, _, _, _, _, ⟨(va_up_self _ _ _), ((va_up_ne _ _ (by decide)).trans hRhM_1.2.1), ((va_up_ne _ _ (by decide)).trans hRhM_1.2.2.1), ((va_up_ne _ _ (by decide)).trans hRhM_1.2.2.2.1), ((va_up_ne _ _ (by decide)).trans hRhM_1.2.2.2.2)⟩, hLhM_1, he9hM_1⟩ ((sm.rf.tr (hshM_1.mono (by omega) (by omega))).up (by omega) (by omega))
