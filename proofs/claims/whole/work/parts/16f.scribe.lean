set_option maxRecDepth 100000 in
set_option maxHeartbeats 4000000 in
theorem f_X2_readMetal {G : gb_G} (hW : gW G) {Q : Option Value → gb_M → Prop} {mM : gb_M} {bs : Nat → Nat} {ln pl so sa nu : Nat} (hP : isP G mM bs ln pl so sa nu) (hln : ln ≤ 160) (hbs : ∀ k, k < ln → bs k ≤ 127) (hpl : pl ≤ ln) (hsa : sa ≤ 160) (hso : so ≤ 4) {fp s1 s2 s3 : Nat} {s4 : Bool} (hC : isC G mM 0 fp s1 s2 s3 s4) {last : Nat} (hla : last < 4)  (hQ : ∀ M' fp' nu', isP G M' bs ln (tkE bs ln pl) (tkS bs ln pl) (tkB bs ln pl) nu' → isC G M' (aM bs ln last pl) fp' s1 s2 s3 s4 → (aM bs ln last pl ≠ 0 → fp' = tkB bs ln pl) → (aM bs ln last pl = 0 → nu' = mAt bs ln pl) → sm mM M' 12 14 → Q (some (.int (bI (decide (aM bs ln last pl = 0))))) M') : Fn G 6 yX2_readMetal cX2_readMetal 4 (some .boolean) [.ref (gb_ad G 14), .ref (gb_ad G 12), .int (nI (last))] mM Q := by
  have hN := hW.2.2.1
  refine Fn.of hW.1 [(0, .ref (gb_ad G 14)), (1, .ref (gb_ad G 12)), (2, .int (nI (last)))] (by decide) (Nat.le_of_ble_eq_true rfl) rfl ?_
  intro X O
  refine w_aload_n (n := 1) O dX2_readMetal_0 rfl rfl rfl ?_
  refine w_aload_n (n := 2) O dX2_readMetal_1 rfl rfl rfl ?_
  refine w_cV (n := 5) (ro := some (.int (bI (decide (¬ tkS bs ln pl = 0))))) (R := fun mM' => ∃ fp', isP G mM' bs ln (tkE bs ln pl) (tkS bs ln pl) (tkB bs ln pl) (tkU bs ln pl nu) ∧ isC G mM' (aT bs ln pl) fp' s1 s2 s3 s4 ∧ (aT bs ln pl ≠ 0 → fp' = tkB bs ln pl) ∧ sm mM mM' 12 14) (st := []) (st1 := [.int (bI (decide (¬ tkS bs ln pl = 0)))]) (As := [.ref (gb_ad G 12)]) (b := 14) O dX2_readMetal_2 ul_X2_42 um_X2_readOn (f_X2_readOn hW ⟨hP.1, hP.2⟩ hln hbs (by omega) (by omega) (by omega) hC (fun M' a h1 h2 h3 h4 => ⟨rfl, a, h1, h2, h3, h4⟩)) rfl (by omega) hC rfl rfl rfl rfl (by decide) (Nat.le_of_ble_eq_true rfl) rfl (fun mhM_6 hM_6 => ?_)
  obtain ⟨fp_5, hP_1, hC_2, hf_3, hs_4⟩ := hM_6
  have bhP_1 := tkE_le (bs := bs) (ln := ln) (p := pl) (by omega)
  have chP_1 := tkB_le (bs := bs) (ln := ln) (p := pl) (by omega)
  have dhP_1 := tkE_ge bs ln pl
  have ehP_1 := tkS_le bs ln pl
  refine w_if_neB (n := 8) (tgt := 10) O dX2_readMetal_5 (by decide) rfl (fun c_7 => ?_) (fun c_7 => ?_)
  · skip
    have ht := dn_t c_7
    have ea : aT bs ln pl = 0 := if_neg ht
    have hC_8 : isC G mhM_6 0 fp_5 s1 s2 s3 s4 := Eq.mp (congrArg (fun x => isC G mhM_6 x fp_5 s1 s2 s3 s4) ea) hC_2
    refine w_aload_n (n := 11) O dX2_readMetal_10 rfl rfl rfl ?_
    refine w_cS (n := 14) (ro := some (.int (wdI (tkM bs (tkS bs ln pl) (tkB bs ln pl) (tkE bs ln pl))))) (R := fun mM' => mhM_6 = mM') (st := []) (st1 := [.int (wdI (tkM bs (tkS bs ln pl) (tkB bs ln pl) (tkE bs ln pl)))]) (As := [.ref (gb_ad G 12)]) O dX2_readMetal_11 ul_X2_144 um_X2_metalOf (f_X2_metalOf hW ⟨hP_1.1, hP_1.2⟩ hln hbs (by omega) (by omega) (by omega) ⟨rfl, rfl⟩) rfl rfl rfl (by decide) (Nat.le_of_ble_eq_true rfl) rfl (fun mhM_9 hM_9 => ?_)
    subst hM_9
    refine w_istore_n (n := 15) (lv' := [(3, .int (wdI (tkM bs (tkS bs ln pl) (tkB bs ln pl) (tkE bs ln pl)))), (0, .ref (gb_ad G 14)), (1, .ref (gb_ad G 12)), (2, .int (nI (last)))]) O dX2_readMetal_14 rfl (by decide) rfl rfl ?_
    have hm4 := tkM_le bs (tkS bs ln pl) (tkB bs ln pl) (tkE bs ln pl)
    have hwm := wIn_wd (mAt bs ln pl) hm4 last (by omega)
    refine w_iload_n (n := 16) O dX2_readMetal_15 rfl rfl rfl ?_
    refine w_iconst (n := 17) O dX2_readMetal_16 (v := (nI 0)) (by decide) rfl ?_
    refine w_iload_n (n := 18) O dX2_readMetal_17 rfl rfl rfl ?_
    refine w_cN (n := 21) (ro := some (.int (bI (wIn (wdI (tkM bs (tkS bs ln pl) (tkB bs ln pl) (tkE bs ln pl))) (nI (0)) (nI (last)))))) (R := fun mM' => mhM_6 = mM') (st := []) (st1 := [.int (bI (wIn (wdI (tkM bs (tkS bs ln pl) (tkB bs ln pl) (tkE bs ln pl))) (nI (0)) (nI (last))))]) (As := [.int (wdI (tkM bs (tkS bs ln pl) (tkB bs ln pl) (tkE bs ln pl))), .int (nI 0), .int (nI (last))]) O dX2_readMetal_18 (gz_NW4 hW O) um_X6_within (f_X6_within hW ⟨rfl, rfl⟩) rfl rfl rfl (by decide) (Nat.le_of_ble_eq_true rfl) rfl (fun mhM_10 hM_10 => ?_)
    subst hM_10
    refine w_if_neB (n := 24) (tgt := 34) O dX2_readMetal_21 (by decide) rfl (fun c_11 => ?_) (fun c_11 => ?_)
    · skip
      refine w_aload_n (n := 35) O dX2_readMetal_34 rfl rfl rfl ?_
      refine w_iload_n (n := 36) O dX2_readMetal_35 rfl rfl rfl ?_
      have hml := of_decide_eq_true (hwm.symm.trans c_11)
      refine w_top (nI (mAt bs ln pl)) (show wdI (mAt bs ln pl) = nI (mAt bs ln pl) from if_neg (by omega)) ?_
      refine w_putf (n := 39) (fs' := [.ref (gb_ad G 13), .int (nI (ln)), .int (nI (tkE bs ln pl)), .int (nI (tkS bs ln pl)), .int (nI (tkB bs ln pl)), .int (nI (mAt bs ln pl))]) O 5 dX2_readMetal_36 (by omega) hP_1.1 rfl (by decide) uX4 uf_X2_113 tyX4 tyX4_ok nmX4 rfl rfl rfl (Nat.le_of_ble_eq_true rfl) rfl rfl ?_
      refine w_iconst (n := 40) O dX2_readMetal_39 (v := (nI 1)) (by decide) rfl ?_
      refine w_zret O dX2_readMetal_40 (by decide) ?_
      have e1 : aM bs ln last pl = 0 := by unfold aM; rw [if_neg ht, if_pos hml]
      rw [e1] at hQ
      exact hQ _ _ _ ⟨(va_up_self _ _ _), ((va_up_ne _ _ (by decide)).trans hP_1.2)⟩ ((va_up_ne _ _ (by decide)).trans hC_8) (fun q => absurd rfl q) (fun _ => rfl) ((sm.rf.tr (hs_4.mono (by omega) (by omega))).up (by omega) (by omega))
    · skip
      refine w_aload_n (n := 25) O dX2_readMetal_24 rfl rfl rfl ?_
      refine w_iconst (n := 26) O dX2_readMetal_25 (v := (nI 2)) (by decide) rfl ?_
      refine w_aload_n (n := 27) O dX2_readMetal_26 rfl rfl rfl ?_
      refine w_getf (n := 30) O 4 dX2_readMetal_27 (by omega) hP_1.1 rfl (by decide) uX4 uf_X2_102 rfl rfl ?_
      refine w_cV (n := 33) (ro := some (.int (bI (false)))) (R := fun mM' => isC G mM' 2 (tkB bs ln pl) s1 s2 s3 s4 ∧ sm mhM_6 mM' 14 14) (st := []) (st1 := [.int (bI (false))]) (As := [.int (nI 2), .int (nI (tkB bs ln pl))]) (b := 14) O dX2_readMetal_30 ul_X2_60 um_X2_refuse (f_X2_refuse hW hC_8 (fun M' h1 h2 => ⟨rfl, h1, h2⟩)) rfl (by omega) hC_8 rfl rfl rfl rfl (by decide) (Nat.le_of_ble_eq_true rfl) rfl (fun mhM_14 hM_14 => ?_)
      obtain ⟨hC_12, hs_13⟩ := hM_14
      refine w_zret O dX2_readMetal_33 (bI_nar _) ?_
      have hml := of_decide_eq_false (hwm.symm.trans c_11)
      have e1 : aM bs ln last pl = 2 := by unfold aM; rw [if_neg ht, if_neg hml]
      rw [e1] at hQ
      exact hQ _ _ _ ⟨((hs_13 (12) (by omega)).trans hP_1.1), ((hs_13 (13) (by omega)).trans hP_1.2)⟩ hC_12 (fun _ => rfl) (fun q => absurd q (by decide)) ((sm.rf.tr (hs_4.mono (by omega) (by omega))).tr (hs_13.mono (by omega) (by omega)))
  · skip
    refine w_iconst (n := 9) O dX2_readMetal_8 (v := (nI 0)) (by decide) rfl ?_
    refine w_zret O dX2_readMetal_9 (by decide) ?_
    have h0 := dn_f c_7
    have e1 : aM bs ln last pl = 1 := if_pos h0
    have ea : aT bs ln pl = 1 := if_pos h0
    have hC_15 : isC G mhM_6 1 fp_5 s1 s2 s3 s4 := Eq.mp (congrArg (fun x => isC G mhM_6 x fp_5 s1 s2 s3 s4) ea) hC_2
    rw [e1] at hQ
    exact hQ _ _ _ ⟨hP_1.1, hP_1.2⟩ hC_15 (fun _ => hf_3 (by rw [ea]; decide)) (fun q => absurd q (by decide)) (sm.rf.tr (hs_4.mono (by omega) (by omega)))
set_option maxRecDepth 100000 in
set_option maxHeartbeats 4000000 in
theorem f_X2_tellOnce {G : gb_G} (hW : gW G) {Q : Option Value → gb_M → Prop} {mM : gb_M} {bs : Nat → Nat} {ln pl so sa nu : Nat} (hP : isP G mM bs ln pl so sa nu) {fp s1 s2 s3 : Nat} {s4 : Bool} (hC : isC G mM 0 fp s1 s2 s3 s4) {bits : Nat} (hbi : bits < 16) (hnu : nu < 4)  (hQ : ∀ M' fp', isC G M' (tlC 0 bits nu) fp' s1 s2 s3 s4 → (tlC 0 bits nu ≠ 0 → fp' = sa) → sm mM M' 14 14 → Q (some (.int (nI (tel bits nu)))) M') : Fn G 1 yX2_tellOnce cX2_tellOnce 3 (some .int) [.ref (gb_ad G 14), .ref (gb_ad G 12), .int (nI (bits))] mM Q := by
  have hN := hW.2.2.1
  refine Fn.of hW.1 [(0, .ref (gb_ad G 14)), (1, .ref (gb_ad G 12)), (2, .int (nI (bits)))] (by decide) (Nat.le_of_ble_eq_true rfl) rfl ?_
  intro X O
  refine w_iload_n (n := 1) O dX2_tellOnce_0 rfl rfl rfl ?_
  refine w_aload_n (n := 2) O dX2_tellOnce_1 rfl rfl rfl ?_
  refine w_getf (n := 5) O 5 dX2_tellOnce_2 (by omega) hP.1 rfl (by decide) uX4 uf_X2_113 rfl rfl ?_
  refine w_cN (n := 8) (ro := some (.int (bI (hasB (bits) (nu))))) (R := fun mM' => mM = mM') (st := []) (st1 := [.int (bI (hasB (bits) (nu)))]) (As := [.int (nI (bits)), .int (nI (nu))]) O dX2_tellOnce_5 (gz_NW3 hW O) um_X6_has (f_X6_has hW (by omega) (by omega) ⟨rfl, rfl⟩) rfl rfl rfl (by decide) (Nat.le_of_ble_eq_true rfl) rfl (fun mhM_1 hM_1 => ?_)
  subst hM_1
  refine w_if_eqB (n := 11) (tgt := 21) O dX2_tellOnce_8 (by decide) rfl (fun c_2 => ?_) (fun c_2 => ?_)
  · skip
    refine w_iload_n (n := 22) O dX2_tellOnce_21 rfl rfl rfl ?_
    refine w_iconst (n := 23) O dX2_tellOnce_22 (v := (nI 1)) (by decide) rfl ?_
    refine w_aload_n (n := 24) O dX2_tellOnce_23 rfl rfl rfl ?_
    refine w_getf (n := 27) O 5 dX2_tellOnce_24 (by omega) hP.1 rfl (by decide) uX4 uf_X2_113 rfl rfl ?_
    refine w_ishl (n := 28) O dX2_tellOnce_27 rfl ?_
    refine w_ior (n := 29) O dX2_tellOnce_28 rfl ?_
    refine w_top (nI (tel bits nu)) (tel_or bits hbi nu hnu) ?_
    refine w_iret O dX2_tellOnce_29 ?_
    have e1 : tlC 0 bits nu = 0 := by unfold tlC; rw [if_pos rfl, if_neg (by rw [c_2]; decide)]
    rw [e1] at hQ
    exact hQ _ _ hC (fun q => absurd rfl q) sm.rf
  · skip
    refine w_aload_n (n := 12) O dX2_tellOnce_11 rfl rfl rfl ?_
    refine w_iconst (n := 13) O dX2_tellOnce_12 (v := (nI 4)) (by decide) rfl ?_
    refine w_aload_n (n := 14) O dX2_tellOnce_13 rfl rfl rfl ?_
    refine w_getf (n := 17) O 4 dX2_tellOnce_14 (by omega) hP.1 rfl (by decide) uX4 uf_X2_102 rfl rfl ?_
    refine w_cV (n := 20) (ro := some (.int (bI (false)))) (R := fun mM' => isC G mM' 4 sa s1 s2 s3 s4 ∧ sm mM mM' 14 14) (st := []) (st1 := [.int (bI (false))]) (As := [.int (nI 4), .int (nI (sa))]) (b := 14) O dX2_tellOnce_17 ul_X2_60 um_X2_refuse (f_X2_refuse hW hC (fun M' h1 h2 => ⟨rfl, h1, h2⟩)) rfl (by omega) hC rfl rfl rfl rfl (by decide) (Nat.le_of_ble_eq_true rfl) rfl (fun mhM_5 hM_5 => ?_)
    obtain ⟨hC_3, hs_4⟩ := hM_5
    refine w_pop (n := 21) O dX2_tellOnce_20 rfl rfl ?_
    refine w_iload_n (n := 22) O dX2_tellOnce_21 rfl rfl rfl ?_
    refine w_iconst (n := 23) O dX2_tellOnce_22 (v := (nI 1)) (by decide) rfl ?_
    refine w_aload_n (n := 24) O dX2_tellOnce_23 rfl rfl rfl ?_
    refine w_getf (n := 27) O 5 dX2_tellOnce_24 (by omega) ((hs_4 (12) (by omega)).trans hP.1) rfl (by decide) uX4 uf_X2_113 rfl rfl ?_
    refine w_ishl (n := 28) O dX2_tellOnce_27 rfl ?_
    refine w_ior (n := 29) O dX2_tellOnce_28 rfl ?_
    refine w_top (nI (tel bits nu)) (tel_or bits hbi nu hnu) ?_
    refine w_iret O dX2_tellOnce_29 ?_
    have e1 : tlC 0 bits nu = 4 := by unfold tlC; rw [if_pos rfl, if_pos c_2]
    rw [e1] at hQ
    exact hQ _ _ hC_3 (fun _ => rfl) (sm.rf.tr (hs_4.mono (by omega) (by omega)))
set_option maxRecDepth 100000 in
set_option maxHeartbeats 4000000 in
theorem f_X2_readSorry {G : gb_G} (hW : gW G) {Q : Option Value → gb_M → Prop} {mM : gb_M} {bs : Nat → Nat} {ln pl so sa nu : Nat} (hP : isP G mM bs ln pl so sa nu) (hln : ln ≤ 160) (hbs : ∀ k, k < ln → bs k ≤ 127) (hpl : pl ≤ ln) (hsa : sa ≤ 160) (hso : so ≤ 4) {Z : Sc} {fp : Nat} (hC : isC G mM 0 fp Z.2.1 Z.2.2.1 Z.2.2.2.1 Z.2.2.2.2) (hV : isT G mM 15 Z.1) (hZ : Z.2.1 < 16 ∧ Z.2.2.1 < 16 ∧ Z.2.2.2.1 < 16)  (hQ : ∀ M', LnP G M' bs ln (fSor bs ln Z pl) (tkE bs ln pl) (uSor bs ln Z pl) → sm mM M' 12 18 → Q none M') : Fn G 4 yX2_readSorry cX2_readSorry 2 none [.ref (gb_ad G 14), .ref (gb_ad G 12)] mM Q := by
  have hN := hW.2.2.1
  refine Fn.of hW.1 [(0, .ref (gb_ad G 14)), (1, .ref (gb_ad G 12))] (by decide) (Nat.le_of_ble_eq_true rfl) rfl ?_
  intro X O
  refine w_aload_n (n := 1) O dX2_readSorry_0 rfl rfl rfl ?_
  refine w_aload_n (n := 2) O dX2_readSorry_1 rfl rfl rfl ?_
  refine w_iconst (n := 3) O dX2_readSorry_2 (v := (nI 0)) (by decide) rfl ?_
  refine w_iconst (n := 4) O dX2_readSorry_3 (v := (nI 3)) (by decide) rfl ?_
  refine w_cV (n := 7) (ro := some (.int (bI (decide (aN bs ln 0 3 pl = 0))))) (R := fun mM' => ∃ fp', isP G mM' bs ln (tkE bs ln pl) (tkS bs ln pl) (tkB bs ln pl) (tkU bs ln pl nu) ∧ isC G mM' (aN bs ln 0 3 pl) fp' Z.2.1 Z.2.2.1 Z.2.2.2.1 Z.2.2.2.2 ∧ (aN bs ln 0 3 pl ≠ 0 → fp' = tkB bs ln pl) ∧ sm mM mM' 12 14) (st := []) (st1 := [.int (bI (decide (aN bs ln 0 3 pl = 0)))]) (As := [.ref (gb_ad G 12), .int (nI 0), .int (nI 3)]) (b := 14) O dX2_readSorry_4 ul_X2_120 um_X2_readNumber (f_X2_readNumber hW ⟨hP.1, hP.2⟩ hln hbs (by omega) (by omega) (by omega) hC (by decide) (by decide) (fun M' a h1 h2 h3 h4 => ⟨rfl, a, h1, h2, h3, h4⟩)) rfl (by omega) hC rfl rfl rfl rfl (by decide) (Nat.le_of_ble_eq_true rfl) rfl (fun mhM_6 hM_6 => ?_)
  obtain ⟨fp_5, hP_1, hC_2, hf_3, hs_4⟩ := hM_6
  have bhP_1 := tkE_le (bs := bs) (ln := ln) (p := pl) (by omega)
  have chP_1 := tkB_le (bs := bs) (ln := ln) (p := pl) (by omega)
  have dhP_1 := tkE_ge bs ln pl
  have ehP_1 := tkS_le bs ln pl
  refine w_if_neB (n := 10) (tgt := 11) O dX2_readSorry_7 (by decide) rfl (fun c_7 => ?_) (fun c_7 => ?_)
  · skip
    have e0_9 := of_decide_eq_true c_7
    have hz_8 := aN_0 e0_9
    have hC_10 : isC G mhM_6 0 fp_5 Z.2.1 Z.2.2.1 Z.2.2.2.1 Z.2.2.2.2 := Eq.mp (congrArg (fun x => isC G mhM_6 x fp_5 Z.2.1 Z.2.2.1 Z.2.2.2.1 Z.2.2.2.2) e0_9) hC_2
    have hP_11 := hP_1.1
    rw [tkU_3 hz_8.1] at hP_11
    refine w_aload_n (n := 12) O dX2_readSorry_11 rfl rfl rfl ?_
    refine w_aload_n (n := 13) O dX2_readSorry_12 rfl rfl rfl ?_
    refine w_aload_n (n := 14) O dX2_readSorry_13 rfl rfl rfl ?_
    refine w_aload_n (n := 15) O dX2_readSorry_14 rfl rfl rfl ?_
    refine w_getf (n := 18) O 3 dX2_readSorry_15 (by omega) hC_10 rfl (by decide) uX2 uf_X2_25 rfl rfl ?_
    refine w_cV (n := 21) (ro := some (.int (nI (tel Z.2.1 (tkV bs ln pl))))) (R := fun mM' => ∃ fp', isC G mM' (tlC 0 Z.2.1 (tkV bs ln pl)) fp' Z.2.1 Z.2.2.1 Z.2.2.2.1 Z.2.2.2.2 ∧ (tlC 0 Z.2.1 (tkV bs ln pl) ≠ 0 → fp' = tkB bs ln pl) ∧ sm mhM_6 mM' 14 14) (st := [.ref (gb_ad G 14)]) (st1 := [.int (nI (tel Z.2.1 (tkV bs ln pl))), .ref (gb_ad G 14)]) (As := [.ref (gb_ad G 12), .int (nI (Z.2.1))]) (b := 14) O dX2_readSorry_18 ul_X2_124 um_X2_tellOnce (f_X2_tellOnce hW ⟨hP_11, hP_1.2⟩ hC_10 (by omega) (by omega) (fun M' a h1 h2 h3 => ⟨rfl, a, h1, h2, h3⟩)) rfl (by omega) hC_10 rfl rfl rfl rfl (by decide) (Nat.le_of_ble_eq_true rfl) rfl (fun mhM_16 hM_16 => ?_)
    obtain ⟨fp_15, hC_12, hf_13, hs_14⟩ := hM_16
    refine w_putf (n := 24) (fs' := [.ref (gb_ad G 15), .int (nI (tlC 0 Z.2.1 (tkV bs ln pl))), .int (nI (fp_15)), .int (nI (tel Z.2.1 (tkV bs ln pl))), .int (nI (Z.2.2.1)), .int (nI (Z.2.2.2.1)), .int (bI (Z.2.2.2.2))]) O 3 dX2_readSorry_21 (by omega) hC_12 rfl (by decide) uX2 uf_X2_25 tyX2 tyX2_ok nmX2 rfl rfl rfl (Nat.le_of_ble_eq_true rfl) rfl rfl ?_
    refine w_aload_n (n := 25) O dX2_readSorry_24 rfl rfl rfl ?_
    refine w_getf (n := 28) O 0 dX2_readSorry_25 (by omega) (va_up_self _ _ _) rfl (by decide) uX2 uf_X2_12 rfl rfl ?_
    refine w_aload_n (n := 29) O dX2_readSorry_28 rfl rfl rfl ?_
    refine w_getf (n := 32) O 5 dX2_readSorry_29 (by omega) ((va_up_ne _ _ (by decide)).trans ((hs_14 (12) (by omega)).trans hP_11)) rfl (by decide) uX4 uf_X2_113 rfl rfl ?_
    refine w_iconst (n := 33) O dX2_readSorry_32 (v := (nI 4)) (by decide) rfl ?_
    refine w_iconst (n := 34) O dX2_readSorry_33 (v := (nI 1)) (by decide) rfl ?_
    refine w_cV (n := 37) (ro := none) (R := fun mM' => isT G mM' (15) (upN Z.1.1 (tkV bs ln pl * 6 + 4) 1, Z.1.2) ∧ sm (va_up mhM_16 (14) (.inr (2, [.ref (gb_ad G 15), .int (nI (tlC 0 Z.2.1 (tkV bs ln pl))), .int (nI (fp_15)), .int (nI (tel Z.2.1 (tkV bs ln pl))), .int (nI (Z.2.2.1)), .int (nI (Z.2.2.2.1)), .int (bI (Z.2.2.2.2))]))) mM' (15) (15 + 3)) (st := []) (st1 := []) (As := [.int (nI (tkV bs ln pl)), .int (nI 4), .int (nI 1)]) (b := 15) O dX2_readSorry_34 ul_X2_105 um_X5_setTrait (f_X5_setTrait (T := Z.1) hW ⟨((va_up_ne _ _ (by decide)).trans ((hs_14 (15) (by omega)).trans ((hs_4 (15) (by omega)).trans hV.1))), ((va_up_ne _ _ (by decide)).trans ((hs_14 (16) (by omega)).trans ((hs_4 (16) (by omega)).trans hV.2.1))), ((va_up_ne _ _ (by decide)).trans ((hs_14 (17) (by omega)).trans ((hs_4 (17) (by omega)).trans hV.2.2.1))), ((va_up_ne _ _ (by decide)).trans ((hs_14 (18) (by omega)).trans ((hs_4 (18) (by omega)).trans hV.2.2.2)))⟩ (by omega) (by omega) (fun M' h1 h2 => ⟨rfl, h1, h2⟩)) rfl (by omega) ((va_up_ne _ _ (by decide)).trans ((hs_14 (15) (by omega)).trans ((hs_4 (15) (by omega)).trans hV.1))) rfl rfl rfl rfl (by omega) (Nat.le_of_ble_eq_true rfl) rfl (fun mhM_17 hM_17 => ?_)
    obtain ⟨hThM_17, hshM_17⟩ := hM_17
    refine w_vret O dX2_readSorry_37 ?_
    have eF : fSor bs ln Z pl = (tlC 0 Z.2.1 (tkV bs ln pl), tkB bs ln pl) := by unfold fSor; rw [e0_9]
    rw [eF] at hQ
    exact hQ _ ⟨_, ((upN Z.1.1 (tkV bs ln pl * 6 + 4) 1, Z.1.2), tel Z.2.1 (tkV bs ln pl), Z.2.2.1, Z.2.2.2.1, Z.2.2.2.2), _, _, _, _, ((hshM_17 (14) (by omega)).trans (va_up_self _ _ _)), ⟨hThM_17.1, hThM_17.2.1, hThM_17.2.2.1, hThM_17.2.2.2⟩, ⟨((hshM_17 (12) (by omega)).trans ((va_up_ne _ _ (by decide)).trans ((hs_14 (12) (by omega)).trans hP_11))), ((hshM_17 (13) (by omega)).trans ((va_up_ne _ _ (by decide)).trans ((hs_14 (13) (by omega)).trans hP_1.2)))⟩, (by omega), (by omega), (by omega), hf_13, (fun _ => ⟨rfl, rfl⟩)⟩ ((((sm.rf.tr (hs_4.mono (by omega) (by omega))).tr (hs_14.mono (by omega) (by omega))).up (by omega) (by omega)).tr (hshM_17.mono (by omega) (by omega)))
  · skip
    refine w_vret O dX2_readSorry_10 ?_
    have hn0 := of_decide_eq_false c_7
    have eF : fSor bs ln Z pl = (aN bs ln 0 3 pl, tkB bs ln pl) := by unfold fSor tlC; rw [if_neg hn0]
    rw [eF] at hQ
    exact hQ _ ⟨_, (Z.1, Z.2.1, Z.2.2.1, Z.2.2.2.1, Z.2.2.2.2), _, _, _, _, hC_2, ⟨((hs_4 (15) (by omega)).trans hV.1), ((hs_4 (16) (by omega)).trans hV.2.1), ((hs_4 (17) (by omega)).trans hV.2.2.1), ((hs_4 (18) (by omega)).trans hV.2.2.2)⟩, ⟨hP_1.1, hP_1.2⟩, (by omega), (by omega), (by omega), hf_3, (fun q => absurd q hn0)⟩ (sm.rf.tr (hs_4.mono (by omega) (by omega)))
