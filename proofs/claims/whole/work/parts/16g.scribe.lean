set_option maxRecDepth 100000 in
set_option maxHeartbeats 4000000 in
theorem f_X2_readHold {G : gb_G} (hW : gW G) {Q : Option Value → gb_M → Prop} {mM : gb_M} {bs : Nat → Nat} {ln pl so sa nu : Nat} (hP : isP G mM bs ln pl so sa nu) (hln : ln ≤ 160) (hbs : ∀ k, k < ln → bs k ≤ 127) (hpl : pl ≤ ln) (hsa : sa ≤ 160) (hso : so ≤ 4) {Z : Sc} {fp : Nat} (hC : isC G mM 0 fp Z.2.1 Z.2.2.1 Z.2.2.2.1 Z.2.2.2.2) (hV : isT G mM 15 Z.1) (hZ : Z.2.1 < 16 ∧ Z.2.2.1 < 16 ∧ Z.2.2.2.1 < 16)  (hQ : ∀ M', LnP G M' bs ln (fHol bs ln Z pl) (tkE bs ln (tkE bs ln pl)) (uHol bs ln Z pl) → sm mM M' 12 18 → Q none M') : Fn G 4 yX2_readHold cX2_readHold 3 none [.ref (gb_ad G 14), .ref (gb_ad G 12)] mM Q := by
  have hN := hW.2.2.1
  refine Fn.of hW.1 [(0, .ref (gb_ad G 14)), (1, .ref (gb_ad G 12))] (by decide) (Nat.le_of_ble_eq_true rfl) rfl ?_
  intro X O
  refine w_aload_n (n := 1) O dX2_readHold_0 rfl rfl rfl ?_
  refine w_aload_n (n := 2) O dX2_readHold_1 rfl rfl rfl ?_
  refine w_iconst (n := 3) O dX2_readHold_2 (v := (nI 0)) (by decide) rfl ?_
  refine w_iconst (n := 4) O dX2_readHold_3 (v := (nI 3)) (by decide) rfl ?_
  refine w_cV (n := 7) (ro := some (.int (bI (decide (aN bs ln 0 3 pl = 0))))) (R := fun mM' => ∃ fp', isP G mM' bs ln (tkE bs ln pl) (tkS bs ln pl) (tkB bs ln pl) (tkU bs ln pl nu) ∧ isC G mM' (aN bs ln 0 3 pl) fp' Z.2.1 Z.2.2.1 Z.2.2.2.1 Z.2.2.2.2 ∧ (aN bs ln 0 3 pl ≠ 0 → fp' = tkB bs ln pl) ∧ sm mM mM' 12 14) (st := []) (st1 := [.int (bI (decide (aN bs ln 0 3 pl = 0)))]) (As := [.ref (gb_ad G 12), .int (nI 0), .int (nI 3)]) (b := 14) O dX2_readHold_4 ul_X2_120 um_X2_readNumber (f_X2_readNumber hW ⟨hP.1, hP.2⟩ hln hbs (by omega) (by omega) (by omega) hC (by decide) (by decide) (fun M' a h1 h2 h3 h4 => ⟨rfl, a, h1, h2, h3, h4⟩)) rfl (by omega) hC rfl rfl rfl rfl (by decide) (Nat.le_of_ble_eq_true rfl) rfl (fun mhM_6 hM_6 => ?_)
  obtain ⟨fp_5, hP_1, hC_2, hf_3, hs_4⟩ := hM_6
  have bhP_1 := tkE_le (bs := bs) (ln := ln) (p := pl) (by omega)
  have chP_1 := tkB_le (bs := bs) (ln := ln) (p := pl) (by omega)
  have dhP_1 := tkE_ge bs ln pl
  have ehP_1 := tkS_le bs ln pl
  refine w_if_neB (n := 10) (tgt := 11) O dX2_readHold_7 (by decide) rfl (fun c_7 => ?_) (fun c_7 => ?_)
  · skip
    have e0_9 := of_decide_eq_true c_7
    have hz_8 := aN_0 e0_9
    have hC_10 : isC G mhM_6 0 fp_5 Z.2.1 Z.2.2.1 Z.2.2.2.1 Z.2.2.2.2 := Eq.mp (congrArg (fun x => isC G mhM_6 x fp_5 Z.2.1 Z.2.2.1 Z.2.2.2.1 Z.2.2.2.2) e0_9) hC_2
    have hP_11 := hP_1.1
    rw [tkU_3 hz_8.1] at hP_11
    refine w_aload_n (n := 12) O dX2_readHold_11 rfl rfl rfl ?_
    refine w_getf (n := 15) O 5 dX2_readHold_12 (by omega) hP_11 rfl (by decide) uX4 uf_X2_113 rfl rfl ?_
    refine w_istore_n (n := 16) (lv' := [(2, .int (nI (tkV bs ln pl))), (0, .ref (gb_ad G 14)), (1, .ref (gb_ad G 12))]) O dX2_readHold_15 rfl (by decide) rfl rfl ?_
    refine w_aload_n (n := 17) O dX2_readHold_16 rfl rfl rfl ?_
    refine w_aload_n (n := 18) O dX2_readHold_17 rfl rfl rfl ?_
    refine w_aload_n (n := 19) O dX2_readHold_18 rfl rfl rfl ?_
    refine w_aload_n (n := 20) O dX2_readHold_19 rfl rfl rfl ?_
    refine w_getf (n := 23) O 4 dX2_readHold_20 (by omega) hC_10 rfl (by decide) uX2 uf_X2_28 rfl rfl ?_
    refine w_cV (n := 26) (ro := some (.int (nI (tel Z.2.2.1 (tkV bs ln pl))))) (R := fun mM' => ∃ fp', isC G mM' (tlC 0 Z.2.2.1 (tkV bs ln pl)) fp' Z.2.1 Z.2.2.1 Z.2.2.2.1 Z.2.2.2.2 ∧ (tlC 0 Z.2.2.1 (tkV bs ln pl) ≠ 0 → fp' = tkB bs ln pl) ∧ sm mhM_6 mM' 14 14) (st := [.ref (gb_ad G 14)]) (st1 := [.int (nI (tel Z.2.2.1 (tkV bs ln pl))), .ref (gb_ad G 14)]) (As := [.ref (gb_ad G 12), .int (nI (Z.2.2.1))]) (b := 14) O dX2_readHold_23 ul_X2_124 um_X2_tellOnce (f_X2_tellOnce hW ⟨hP_11, hP_1.2⟩ hC_10 (by omega) (by omega) (fun M' a h1 h2 h3 => ⟨rfl, a, h1, h2, h3⟩)) rfl (by omega) hC_10 rfl rfl rfl rfl (by decide) (Nat.le_of_ble_eq_true rfl) rfl (fun mhM_16 hM_16 => ?_)
    obtain ⟨fp_15, hC_12, hf_13, hs_14⟩ := hM_16
    refine w_putf (n := 29) (fs' := [.ref (gb_ad G 15), .int (nI (tlC 0 Z.2.2.1 (tkV bs ln pl))), .int (nI (fp_15)), .int (nI (Z.2.1)), .int (nI (tel Z.2.2.1 (tkV bs ln pl))), .int (nI (Z.2.2.2.1)), .int (bI (Z.2.2.2.2))]) O 4 dX2_readHold_26 (by omega) hC_12 rfl (by decide) uX2 uf_X2_28 tyX2 tyX2_ok nmX2 rfl rfl rfl (Nat.le_of_ble_eq_true rfl) rfl rfl ?_
    have htl := tlC_le Z.2.2.1 (tkV bs ln pl)
    refine w_aload_n (n := 30) O dX2_readHold_29 rfl rfl rfl ?_
    refine w_getf (n := 33) O 1 dX2_readHold_30 (by omega) (va_up_self _ _ _) rfl (by decide) uX2 uf_X2_18 rfl rfl ?_
    refine w_if_neN (n := 36) (tgt := 63) O dX2_readHold_33 (by omega) (by decide) rfl (fun c_17 => ?_) (fun c_17 => ?_)
    · skip
      refine w_vret O dX2_readHold_63 ?_
      have hn0 := c_17
      have eF : fHol bs ln Z pl = (tlC 0 Z.2.2.1 (tkV bs ln pl), tkB bs ln pl) := by unfold fHol; rw [e0_9]; exact orF_no hn0
      rw [eF] at hQ
      exact hQ _ ⟨_, (Z.1, Z.2.1, tel Z.2.2.1 (tkV bs ln pl), Z.2.2.2.1, Z.2.2.2.2), _, _, _, _, (va_up_self _ _ _), ⟨((va_up_ne _ _ (by decide)).trans ((hs_14 (15) (by omega)).trans ((hs_4 (15) (by omega)).trans hV.1))), ((va_up_ne _ _ (by decide)).trans ((hs_14 (16) (by omega)).trans ((hs_4 (16) (by omega)).trans hV.2.1))), ((va_up_ne _ _ (by decide)).trans ((hs_14 (17) (by omega)).trans ((hs_4 (17) (by omega)).trans hV.2.2.1))), ((va_up_ne _ _ (by decide)).trans ((hs_14 (18) (by omega)).trans ((hs_4 (18) (by omega)).trans hV.2.2.2)))⟩, ⟨((va_up_ne _ _ (by decide)).trans ((hs_14 (12) (by omega)).trans hP_11)), ((va_up_ne _ _ (by decide)).trans ((hs_14 (13) (by omega)).trans hP_1.2))⟩, (by omega), (by omega), (by omega), hf_13, (fun q => absurd q hn0)⟩ (((sm.rf.tr (hs_4.mono (by omega) (by omega))).tr (hs_14.mono (by omega) (by omega))).up (by omega) (by omega))
    · skip
      have hC_18 : isC G (va_up mhM_16 (14) (.inr (2, [.ref (gb_ad G 15), .int (nI (tlC 0 Z.2.2.1 (tkV bs ln pl))), .int (nI (fp_15)), .int (nI (Z.2.1)), .int (nI (tel Z.2.2.1 (tkV bs ln pl))), .int (nI (Z.2.2.2.1)), .int (bI (Z.2.2.2.2))]))) 0 fp_15 Z.2.1 (tel Z.2.2.1 (tkV bs ln pl)) Z.2.2.2.1 Z.2.2.2.2 := Eq.mp (congrArg (fun x => isC G (va_up mhM_16 (14) (.inr (2, [.ref (gb_ad G 15), .int (nI (tlC 0 Z.2.2.1 (tkV bs ln pl))), .int (nI (fp_15)), .int (nI (Z.2.1)), .int (nI (tel Z.2.2.1 (tkV bs ln pl))), .int (nI (Z.2.2.2.1)), .int (bI (Z.2.2.2.2))]))) x fp_15 Z.2.1 (tel Z.2.2.1 (tkV bs ln pl)) Z.2.2.2.1 Z.2.2.2.2) c_17) (va_up_self _ _ _)
      refine w_aload_n (n := 37) O dX2_readHold_36 rfl rfl rfl ?_
      refine w_aload_n (n := 38) O dX2_readHold_37 rfl rfl rfl ?_
      refine w_iconst (n := 39) O dX2_readHold_38 (v := (nI 0)) (by decide) rfl ?_
      refine w_getsN (n := 42) O dX2_readHold_39 (gz_HIG hW O) (gz_NW1 hW O) rfl ?_
      refine w_iconst (n := 43) O dX2_readHold_42 (v := (nI 5)) (by decide) rfl ?_
      refine w_tald (n := 44) O dX2_readHold_43 (gz_HIGt hW O) (by omega) (by decide) rfl ?_
      refine w_top (nI 9) rfl ?_
      refine w_cV (n := 47) (ro := some (.int (bI (decide (aN bs ln 0 9 (tkE bs ln pl) = 0))))) (R := fun mM' => ∃ fp', isP G mM' bs ln (tkE bs ln (tkE bs ln pl)) (tkS bs ln (tkE bs ln pl)) (tkB bs ln (tkE bs ln pl)) (tkU bs ln (tkE bs ln pl) (tkV bs ln pl)) ∧ isC G mM' (aN bs ln 0 9 (tkE bs ln pl)) fp' Z.2.1 (tel Z.2.2.1 (tkV bs ln pl)) Z.2.2.2.1 Z.2.2.2.2 ∧ (aN bs ln 0 9 (tkE bs ln pl) ≠ 0 → fp' = tkB bs ln (tkE bs ln pl)) ∧ sm (va_up mhM_16 (14) (.inr (2, [.ref (gb_ad G 15), .int (nI (tlC 0 Z.2.2.1 (tkV bs ln pl))), .int (nI (fp_15)), .int (nI (Z.2.1)), .int (nI (tel Z.2.2.1 (tkV bs ln pl))), .int (nI (Z.2.2.2.1)), .int (bI (Z.2.2.2.2))]))) mM' 12 14) (st := []) (st1 := [.int (bI (decide (aN bs ln 0 9 (tkE bs ln pl) = 0)))]) (As := [.ref (gb_ad G 12), .int (nI 0), .int (nI 9)]) (b := 14) O dX2_readHold_44 ul_X2_120 um_X2_readNumber (f_X2_readNumber hW ⟨((va_up_ne _ _ (by decide)).trans ((hs_14 (12) (by omega)).trans hP_11)), ((va_up_ne _ _ (by decide)).trans ((hs_14 (13) (by omega)).trans hP_1.2))⟩ hln hbs (by omega) (by omega) (by omega) hC_18 (by decide) (by decide) (fun M' a h1 h2 h3 h4 => ⟨rfl, a, h1, h2, h3, h4⟩)) rfl (by omega) hC_18 rfl rfl rfl rfl (by decide) (Nat.le_of_ble_eq_true rfl) rfl (fun mhM_24 hM_24 => ?_)
      obtain ⟨fp_23, hP_19, hC_20, hf_21, hs_22⟩ := hM_24
      have bhP_19 := tkE_le (bs := bs) (ln := ln) (p := (tkE bs ln pl)) (by omega)
      have chP_19 := tkB_le (bs := bs) (ln := ln) (p := (tkE bs ln pl)) (by omega)
      have dhP_19 := tkE_ge bs ln (tkE bs ln pl)
      have ehP_19 := tkS_le bs ln (tkE bs ln pl)
      refine w_if_eqB (n := 50) (tgt := 63) O dX2_readHold_47 (by decide) rfl (fun c_25 => ?_) (fun c_25 => ?_)
      · skip
        refine w_vret O dX2_readHold_63 ?_
        have hn0 := of_decide_eq_false c_25
        have eF : fHol bs ln Z pl = (aN bs ln 0 9 (tkE bs ln pl), tkB bs ln (tkE bs ln pl)) := by unfold fHol; rw [e0_9]; exact orF_ok c_17 rfl
        rw [eF] at hQ
        exact hQ _ ⟨_, (Z.1, Z.2.1, tel Z.2.2.1 (tkV bs ln pl), Z.2.2.2.1, Z.2.2.2.2), _, _, _, _, hC_20, ⟨((hs_22 (15) (by omega)).trans ((va_up_ne _ _ (by decide)).trans ((hs_14 (15) (by omega)).trans ((hs_4 (15) (by omega)).trans hV.1)))), ((hs_22 (16) (by omega)).trans ((va_up_ne _ _ (by decide)).trans ((hs_14 (16) (by omega)).trans ((hs_4 (16) (by omega)).trans hV.2.1)))), ((hs_22 (17) (by omega)).trans ((va_up_ne _ _ (by decide)).trans ((hs_14 (17) (by omega)).trans ((hs_4 (17) (by omega)).trans hV.2.2.1)))), ((hs_22 (18) (by omega)).trans ((va_up_ne _ _ (by decide)).trans ((hs_14 (18) (by omega)).trans ((hs_4 (18) (by omega)).trans hV.2.2.2))))⟩, ⟨hP_19.1, hP_19.2⟩, (by omega), (by omega), (by omega), hf_21, (fun q => absurd q hn0)⟩ ((((sm.rf.tr (hs_4.mono (by omega) (by omega))).tr (hs_14.mono (by omega) (by omega))).up (by omega) (by omega)).tr (hs_22.mono (by omega) (by omega)))
      · skip
        have e0_27 := of_decide_eq_true c_25
        have hz_26 := aN_0 e0_27
        have hC_28 : isC G mhM_24 0 fp_23 Z.2.1 (tel Z.2.2.1 (tkV bs ln pl)) Z.2.2.2.1 Z.2.2.2.2 := Eq.mp (congrArg (fun x => isC G mhM_24 x fp_23 Z.2.1 (tel Z.2.2.1 (tkV bs ln pl)) Z.2.2.2.1 Z.2.2.2.2) e0_27) hC_20
        have hP_29 := hP_19.1
        rw [tkU_3 hz_26.1] at hP_29
        refine w_aload_n (n := 51) O dX2_readHold_50 rfl rfl rfl ?_
        refine w_getf (n := 54) O 0 dX2_readHold_51 (by omega) hC_28 rfl (by decide) uX2 uf_X2_12 rfl rfl ?_
        refine w_iload_n (n := 55) O dX2_readHold_54 rfl rfl rfl ?_
        refine w_iconst (n := 56) O dX2_readHold_55 (v := (nI 5)) (by decide) rfl ?_
        refine w_aload_n (n := 57) O dX2_readHold_56 rfl rfl rfl ?_
        refine w_getf (n := 60) O 5 dX2_readHold_57 (by omega) hP_29 rfl (by decide) uX4 uf_X2_113 rfl rfl ?_
        refine w_cV (n := 63) (ro := none) (R := fun mM' => isT G mM' (15) (upN Z.1.1 (tkV bs ln pl * 6 + 5) (tkV bs ln (tkE bs ln pl)), Z.1.2) ∧ sm mhM_24 mM' (15) (15 + 3)) (st := []) (st1 := []) (As := [.int (nI (tkV bs ln pl)), .int (nI 5), .int (nI (tkV bs ln (tkE bs ln pl)))]) (b := 15) O dX2_readHold_60 ul_X2_105 um_X5_setTrait (f_X5_setTrait (T := Z.1) hW ⟨((hs_22 (15) (by omega)).trans ((va_up_ne _ _ (by decide)).trans ((hs_14 (15) (by omega)).trans ((hs_4 (15) (by omega)).trans hV.1)))), ((hs_22 (16) (by omega)).trans ((va_up_ne _ _ (by decide)).trans ((hs_14 (16) (by omega)).trans ((hs_4 (16) (by omega)).trans hV.2.1)))), ((hs_22 (17) (by omega)).trans ((va_up_ne _ _ (by decide)).trans ((hs_14 (17) (by omega)).trans ((hs_4 (17) (by omega)).trans hV.2.2.1)))), ((hs_22 (18) (by omega)).trans ((va_up_ne _ _ (by decide)).trans ((hs_14 (18) (by omega)).trans ((hs_4 (18) (by omega)).trans hV.2.2.2))))⟩ (by omega) (by omega) (fun M' h1 h2 => ⟨rfl, h1, h2⟩)) rfl (by omega) ((hs_22 (15) (by omega)).trans ((va_up_ne _ _ (by decide)).trans ((hs_14 (15) (by omega)).trans ((hs_4 (15) (by omega)).trans hV.1)))) rfl rfl rfl rfl (by omega) (Nat.le_of_ble_eq_true rfl) rfl (fun mhM_30 hM_30 => ?_)
        obtain ⟨hThM_30, hshM_30⟩ := hM_30
        refine w_vret O dX2_readHold_63 ?_
        have eF : fHol bs ln Z pl = (0, tkB bs ln (tkE bs ln pl)) := by unfold fHol; rw [e0_9]; exact orF_ok c_17 (by rw [e0_27])
        rw [eF] at hQ
        exact hQ _ ⟨_, ((upN Z.1.1 (tkV bs ln pl * 6 + 5) (tkV bs ln (tkE bs ln pl)), Z.1.2), Z.2.1, tel Z.2.2.1 (tkV bs ln pl), Z.2.2.2.1, Z.2.2.2.2), _, _, _, _, ((hshM_30 (14) (by omega)).trans hC_28), ⟨hThM_30.1, hThM_30.2.1, hThM_30.2.2.1, hThM_30.2.2.2⟩, ⟨((hshM_30 (12) (by omega)).trans hP_29), ((hshM_30 (13) (by omega)).trans hP_19.2)⟩, (by omega), (by omega), (by omega), (fun q => absurd rfl q), (fun _ => ⟨rfl, rfl⟩)⟩ (((((sm.rf.tr (hs_4.mono (by omega) (by omega))).tr (hs_14.mono (by omega) (by omega))).up (by omega) (by omega)).tr (hs_22.mono (by omega) (by omega))).tr (hshM_30.mono (by omega) (by omega)))
  · skip
    refine w_vret O dX2_readHold_10 ?_
    have hn0 := of_decide_eq_false c_7
    have eF : fHol bs ln Z pl = (aN bs ln 0 3 pl, tkB bs ln pl) := by unfold fHol; rw [tlC_n hn0]; exact orF_no hn0
    rw [eF] at hQ
    exact hQ _ ⟨_, (Z.1, Z.2.1, Z.2.2.1, Z.2.2.2.1, Z.2.2.2.2), _, _, _, _, hC_2, ⟨((hs_4 (15) (by omega)).trans hV.1), ((hs_4 (16) (by omega)).trans hV.2.1), ((hs_4 (17) (by omega)).trans hV.2.2.1), ((hs_4 (18) (by omega)).trans hV.2.2.2)⟩, ⟨hP_1.1, hP_1.2⟩, (by omega), (by omega), (by omega), hf_3, (fun q => absurd q hn0)⟩ (sm.rf.tr (hs_4.mono (by omega) (by omega)))
set_option maxRecDepth 100000 in
set_option maxHeartbeats 4000000 in
theorem f_X2_readAdded {G : gb_G} (hW : gW G) {Q : Option Value → gb_M → Prop} {mM : gb_M} {bs : Nat → Nat} {ln pl so sa nu : Nat} (hP : isP G mM bs ln pl so sa nu) (hln : ln ≤ 160) (hbs : ∀ k, k < ln → bs k ≤ 127) (hpl : pl ≤ ln) (hsa : sa ≤ 160) (hso : so ≤ 4) {Z : Sc} {fp : Nat} (hC : isC G mM 0 fp Z.2.1 Z.2.2.1 Z.2.2.2.1 Z.2.2.2.2) (hV : isT G mM 15 Z.1) (hZ : Z.2.1 < 16 ∧ Z.2.2.1 < 16 ∧ Z.2.2.2.1 < 16)  (hQ : ∀ M', LnP G M' bs ln (fAdd bs ln Z pl) (tkE bs ln (tkE bs ln pl)) (uAdd bs ln Z pl) → sm mM M' 12 18 → Q none M') : Fn G 7 yX2_readAdded cX2_readAdded 3 none [.ref (gb_ad G 14), .ref (gb_ad G 12)] mM Q := by
  have hN := hW.2.2.1
  refine Fn.of hW.1 [(0, .ref (gb_ad G 14)), (1, .ref (gb_ad G 12))] (by decide) (Nat.le_of_ble_eq_true rfl) rfl ?_
  intro X O
  refine w_aload_n (n := 1) O dX2_readAdded_0 rfl rfl rfl ?_
  refine w_aload_n (n := 2) O dX2_readAdded_1 rfl rfl rfl ?_
  refine w_iconst (n := 3) O dX2_readAdded_2 (v := (nI 2)) (by decide) rfl ?_
  refine w_cV (n := 6) (ro := some (.int (bI (decide (aM bs ln 2 pl = 0))))) (R := fun mM' => ∃ fp' nu', isP G mM' bs ln (tkE bs ln pl) (tkS bs ln pl) (tkB bs ln pl) nu' ∧ isC G mM' (aM bs ln 2 pl) fp' Z.2.1 Z.2.2.1 Z.2.2.2.1 Z.2.2.2.2 ∧ (aM bs ln 2 pl ≠ 0 → fp' = tkB bs ln pl) ∧ (aM bs ln 2 pl = 0 → nu' = mAt bs ln pl) ∧ sm mM mM' 12 14) (st := []) (st1 := [.int (bI (decide (aM bs ln 2 pl = 0)))]) (As := [.ref (gb_ad G 12), .int (nI 2)]) (b := 14) O dX2_readAdded_3 ul_X2_109 um_X2_readMetal (f_X2_readMetal hW ⟨hP.1, hP.2⟩ hln hbs (by omega) (by omega) (by omega) hC (by decide) (fun M' a b h1 h2 h3 h4 h5 => ⟨rfl, a, b, h1, h2, h3, h4, h5⟩)) rfl (by omega) hC rfl rfl rfl rfl (by decide) (Nat.le_of_ble_eq_true rfl) rfl (fun mhM_8 hM_8 => ?_)
  obtain ⟨fp_5, nu_6, hP_1, hC_2, hf_3, hu_7, hs_4⟩ := hM_8
  have bhP_1 := tkE_le (bs := bs) (ln := ln) (p := pl) (by omega)
  have chP_1 := tkB_le (bs := bs) (ln := ln) (p := pl) (by omega)
  have dhP_1 := tkE_ge bs ln pl
  have ehP_1 := tkS_le bs ln pl
  refine w_if_neB (n := 9) (tgt := 10) O dX2_readAdded_6 (by decide) rfl (fun c_9 => ?_) (fun c_9 => ?_)
  · skip
    have e0_11 := of_decide_eq_true c_9
    have hz_10 := aM_0 e0_11
    have hC_12 : isC G mhM_8 0 fp_5 Z.2.1 Z.2.2.1 Z.2.2.2.1 Z.2.2.2.2 := Eq.mp (congrArg (fun x => isC G mhM_8 x fp_5 Z.2.1 Z.2.2.1 Z.2.2.2.1 Z.2.2.2.2) e0_11) hC_2
    have hP_13 := hP_1.1
    rw [hu_7 e0_11] at hP_13
    refine w_aload_n (n := 11) O dX2_readAdded_10 rfl rfl rfl ?_
    refine w_getf (n := 14) O 5 dX2_readAdded_11 (by omega) hP_13 rfl (by decide) uX4 uf_X2_113 rfl rfl ?_
    refine w_istore_n (n := 15) (lv' := [(2, .int (nI (mAt bs ln pl))), (0, .ref (gb_ad G 14)), (1, .ref (gb_ad G 12))]) O dX2_readAdded_14 rfl (by decide) rfl rfl ?_
    refine w_aload_n (n := 16) O dX2_readAdded_15 rfl rfl rfl ?_
    refine w_aload_n (n := 17) O dX2_readAdded_16 rfl rfl rfl ?_
    refine w_aload_n (n := 18) O dX2_readAdded_17 rfl rfl rfl ?_
    refine w_aload_n (n := 19) O dX2_readAdded_18 rfl rfl rfl ?_
    refine w_getf (n := 22) O 5 dX2_readAdded_19 (by omega) hC_12 rfl (by decide) uX2 uf_X2_31 rfl rfl ?_
    refine w_cV (n := 25) (ro := some (.int (nI (tel Z.2.2.2.1 (mAt bs ln pl))))) (R := fun mM' => ∃ fp', isC G mM' (tlC 0 Z.2.2.2.1 (mAt bs ln pl)) fp' Z.2.1 Z.2.2.1 Z.2.2.2.1 Z.2.2.2.2 ∧ (tlC 0 Z.2.2.2.1 (mAt bs ln pl) ≠ 0 → fp' = tkB bs ln pl) ∧ sm mhM_8 mM' 14 14) (st := [.ref (gb_ad G 14)]) (st1 := [.int (nI (tel Z.2.2.2.1 (mAt bs ln pl))), .ref (gb_ad G 14)]) (As := [.ref (gb_ad G 12), .int (nI (Z.2.2.2.1))]) (b := 14) O dX2_readAdded_22 ul_X2_124 um_X2_tellOnce (f_X2_tellOnce hW ⟨hP_13, hP_1.2⟩ hC_12 (by omega) (by omega) (fun M' a h1 h2 h3 => ⟨rfl, a, h1, h2, h3⟩)) rfl (by omega) hC_12 rfl rfl rfl rfl (by decide) (Nat.le_of_ble_eq_true rfl) rfl (fun mhM_18 hM_18 => ?_)
    obtain ⟨fp_17, hC_14, hf_15, hs_16⟩ := hM_18
    refine w_putf (n := 28) (fs' := [.ref (gb_ad G 15), .int (nI (tlC 0 Z.2.2.2.1 (mAt bs ln pl))), .int (nI (fp_17)), .int (nI (Z.2.1)), .int (nI (Z.2.2.1)), .int (nI (tel Z.2.2.2.1 (mAt bs ln pl))), .int (bI (Z.2.2.2.2))]) O 5 dX2_readAdded_25 (by omega) hC_14 rfl (by decide) uX2 uf_X2_31 tyX2 tyX2_ok nmX2 rfl rfl rfl (Nat.le_of_ble_eq_true rfl) rfl rfl ?_
    have htl := tlC_le Z.2.2.2.1 (mAt bs ln pl)
    refine w_aload_n (n := 29) O dX2_readAdded_28 rfl rfl rfl ?_
    refine w_getf (n := 32) O 1 dX2_readAdded_29 (by omega) (va_up_self _ _ _) rfl (by decide) uX2 uf_X2_18 rfl rfl ?_
    refine w_if_neN (n := 35) (tgt := 59) O dX2_readAdded_32 (by omega) (by decide) rfl (fun c_19 => ?_) (fun c_19 => ?_)
    · skip
      refine w_vret O dX2_readAdded_59 ?_
      have hn0 := c_19
      have eF : fAdd bs ln Z pl = (tlC 0 Z.2.2.2.1 (mAt bs ln pl), tkB bs ln pl) := by unfold fAdd; rw [e0_11]; exact orF_no hn0
      rw [eF] at hQ
      exact hQ _ ⟨_, (Z.1, Z.2.1, Z.2.2.1, tel Z.2.2.2.1 (mAt bs ln pl), Z.2.2.2.2), _, _, _, _, (va_up_self _ _ _), ⟨((va_up_ne _ _ (by decide)).trans ((hs_16 (15) (by omega)).trans ((hs_4 (15) (by omega)).trans hV.1))), ((va_up_ne _ _ (by decide)).trans ((hs_16 (16) (by omega)).trans ((hs_4 (16) (by omega)).trans hV.2.1))), ((va_up_ne _ _ (by decide)).trans ((hs_16 (17) (by omega)).trans ((hs_4 (17) (by omega)).trans hV.2.2.1))), ((va_up_ne _ _ (by decide)).trans ((hs_16 (18) (by omega)).trans ((hs_4 (18) (by omega)).trans hV.2.2.2)))⟩, ⟨((va_up_ne _ _ (by decide)).trans ((hs_16 (12) (by omega)).trans hP_13)), ((va_up_ne _ _ (by decide)).trans ((hs_16 (13) (by omega)).trans hP_1.2))⟩, (by omega), (by omega), (by omega), hf_15, (fun q => absurd q hn0)⟩ (((sm.rf.tr (hs_4.mono (by omega) (by omega))).tr (hs_16.mono (by omega) (by omega))).up (by omega) (by omega))
    · skip
      have hC_20 : isC G (va_up mhM_18 (14) (.inr (2, [.ref (gb_ad G 15), .int (nI (tlC 0 Z.2.2.2.1 (mAt bs ln pl))), .int (nI (fp_17)), .int (nI (Z.2.1)), .int (nI (Z.2.2.1)), .int (nI (tel Z.2.2.2.1 (mAt bs ln pl))), .int (bI (Z.2.2.2.2))]))) 0 fp_17 Z.2.1 Z.2.2.1 (tel Z.2.2.2.1 (mAt bs ln pl)) Z.2.2.2.2 := Eq.mp (congrArg (fun x => isC G (va_up mhM_18 (14) (.inr (2, [.ref (gb_ad G 15), .int (nI (tlC 0 Z.2.2.2.1 (mAt bs ln pl))), .int (nI (fp_17)), .int (nI (Z.2.1)), .int (nI (Z.2.2.1)), .int (nI (tel Z.2.2.2.1 (mAt bs ln pl))), .int (bI (Z.2.2.2.2))]))) x fp_17 Z.2.1 Z.2.2.1 (tel Z.2.2.2.1 (mAt bs ln pl)) Z.2.2.2.2) c_19) (va_up_self _ _ _)
      refine w_aload_n (n := 36) O dX2_readAdded_35 rfl rfl rfl ?_
      refine w_aload_n (n := 37) O dX2_readAdded_36 rfl rfl rfl ?_
      refine w_iconst (n := 38) O dX2_readAdded_37 (v := (nI 0)) (by decide) rfl ?_
      refine w_bipush (n := 40) O dX2_readAdded_38 (v := (nI 40)) (by decide) rfl ?_
      refine w_cV (n := 43) (ro := some (.int (bI (decide (aN bs ln 0 40 (tkE bs ln pl) = 0))))) (R := fun mM' => ∃ fp', isP G mM' bs ln (tkE bs ln (tkE bs ln pl)) (tkS bs ln (tkE bs ln pl)) (tkB bs ln (tkE bs ln pl)) (tkU bs ln (tkE bs ln pl) (mAt bs ln pl)) ∧ isC G mM' (aN bs ln 0 40 (tkE bs ln pl)) fp' Z.2.1 Z.2.2.1 (tel Z.2.2.2.1 (mAt bs ln pl)) Z.2.2.2.2 ∧ (aN bs ln 0 40 (tkE bs ln pl) ≠ 0 → fp' = tkB bs ln (tkE bs ln pl)) ∧ sm (va_up mhM_18 (14) (.inr (2, [.ref (gb_ad G 15), .int (nI (tlC 0 Z.2.2.2.1 (mAt bs ln pl))), .int (nI (fp_17)), .int (nI (Z.2.1)), .int (nI (Z.2.2.1)), .int (nI (tel Z.2.2.2.1 (mAt bs ln pl))), .int (bI (Z.2.2.2.2))]))) mM' 12 14) (st := []) (st1 := [.int (bI (decide (aN bs ln 0 40 (tkE bs ln pl) = 0)))]) (As := [.ref (gb_ad G 12), .int (nI 0), .int (nI 40)]) (b := 14) O dX2_readAdded_40 ul_X2_120 um_X2_readNumber (f_X2_readNumber hW ⟨((va_up_ne _ _ (by decide)).trans ((hs_16 (12) (by omega)).trans hP_13)), ((va_up_ne _ _ (by decide)).trans ((hs_16 (13) (by omega)).trans hP_1.2))⟩ hln hbs (by omega) (by omega) (by omega) hC_20 (by decide) (by decide) (fun M' a h1 h2 h3 h4 => ⟨rfl, a, h1, h2, h3, h4⟩)) rfl (by omega) hC_20 rfl rfl rfl rfl (by decide) (Nat.le_of_ble_eq_true rfl) rfl (fun mhM_26 hM_26 => ?_)
      obtain ⟨fp_25, hP_21, hC_22, hf_23, hs_24⟩ := hM_26
      have bhP_21 := tkE_le (bs := bs) (ln := ln) (p := (tkE bs ln pl)) (by omega)
      have chP_21 := tkB_le (bs := bs) (ln := ln) (p := (tkE bs ln pl)) (by omega)
      have dhP_21 := tkE_ge bs ln (tkE bs ln pl)
      have ehP_21 := tkS_le bs ln (tkE bs ln pl)
      refine w_if_eqB (n := 46) (tgt := 59) O dX2_readAdded_43 (by decide) rfl (fun c_27 => ?_) (fun c_27 => ?_)
      · skip
        refine w_vret O dX2_readAdded_59 ?_
        have hn0 := of_decide_eq_false c_27
        have eF : fAdd bs ln Z pl = (aN bs ln 0 40 (tkE bs ln pl), tkB bs ln (tkE bs ln pl)) := by unfold fAdd; rw [e0_11]; exact orF_ok c_19 rfl
        rw [eF] at hQ
        exact hQ _ ⟨_, (Z.1, Z.2.1, Z.2.2.1, tel Z.2.2.2.1 (mAt bs ln pl), Z.2.2.2.2), _, _, _, _, hC_22, ⟨((hs_24 (15) (by omega)).trans ((va_up_ne _ _ (by decide)).trans ((hs_16 (15) (by omega)).trans ((hs_4 (15) (by omega)).trans hV.1)))), ((hs_24 (16) (by omega)).trans ((va_up_ne _ _ (by decide)).trans ((hs_16 (16) (by omega)).trans ((hs_4 (16) (by omega)).trans hV.2.1)))), ((hs_24 (17) (by omega)).trans ((va_up_ne _ _ (by decide)).trans ((hs_16 (17) (by omega)).trans ((hs_4 (17) (by omega)).trans hV.2.2.1)))), ((hs_24 (18) (by omega)).trans ((va_up_ne _ _ (by decide)).trans ((hs_16 (18) (by omega)).trans ((hs_4 (18) (by omega)).trans hV.2.2.2))))⟩, ⟨hP_21.1, hP_21.2⟩, (by omega), (by omega), (by omega), hf_23, (fun q => absurd q hn0)⟩ ((((sm.rf.tr (hs_4.mono (by omega) (by omega))).tr (hs_16.mono (by omega) (by omega))).up (by omega) (by omega)).tr (hs_24.mono (by omega) (by omega)))
      · skip
        have e0_29 := of_decide_eq_true c_27
        have hz_28 := aN_0 e0_29
        have hC_30 : isC G mhM_26 0 fp_25 Z.2.1 Z.2.2.1 (tel Z.2.2.2.1 (mAt bs ln pl)) Z.2.2.2.2 := Eq.mp (congrArg (fun x => isC G mhM_26 x fp_25 Z.2.1 Z.2.2.1 (tel Z.2.2.2.1 (mAt bs ln pl)) Z.2.2.2.2) e0_29) hC_22
        have hP_31 := hP_21.1
        rw [tkU_3 hz_28.1] at hP_31
        refine w_aload_n (n := 47) O dX2_readAdded_46 rfl rfl rfl ?_
        refine w_getf (n := 50) O 0 dX2_readAdded_47 (by omega) hC_30 rfl (by decide) uX2 uf_X2_12 rfl rfl ?_
        refine w_getf (n := 53) O 1 dX2_readAdded_50 (by omega) ((hs_24 (15) (by omega)).trans ((va_up_ne _ _ (by decide)).trans ((hs_16 (15) (by omega)).trans ((hs_4 (15) (by omega)).trans hV.1)))) rfl (by decide) uX5 uf_X2_128 rfl rfl ?_
        refine w_iload_n (n := 54) O dX2_readAdded_53 rfl rfl rfl ?_
        refine w_aload_n (n := 55) O dX2_readAdded_54 rfl rfl rfl ?_
        refine w_getf (n := 58) O 5 dX2_readAdded_55 (by omega) hP_31 rfl (by decide) uX4 uf_X2_113 rfl rfl ?_
        refine w_iastN (n := 59) O dX2_readAdded_58 hW.2.1 (by omega) ((hs_24 (17) (by omega)).trans ((va_up_ne _ _ (by decide)).trans ((hs_16 (17) (by omega)).trans ((hs_4 (17) (by omega)).trans hV.2.2.1)))) (by omega) (by decide) rfl ?_
        refine w_vret O dX2_readAdded_59 ?_
        have eF : fAdd bs ln Z pl = (0, tkB bs ln (tkE bs ln pl)) := by unfold fAdd; rw [e0_11]; exact orF_ok c_19 (by rw [e0_29])
        rw [eF] at hQ
        exact hQ _ ⟨_, ((Z.1.1, upN (Z.1.2.1) (mAt bs ln pl) (tkV bs ln (tkE bs ln pl)), Z.1.2.2.1, Z.1.2.2.2.1, Z.1.2.2.2.2.1, Z.1.2.2.2.2.2.1, Z.1.2.2.2.2.2.2), Z.2.1, Z.2.2.1, tel Z.2.2.2.1 (mAt bs ln pl), Z.2.2.2.2), _, _, _, _, ((va_up_ne _ _ (by decide)).trans hC_30), ⟨((va_up_ne _ _ (by decide)).trans ((hs_24 (15) (by omega)).trans ((va_up_ne _ _ (by decide)).trans ((hs_16 (15) (by omega)).trans ((hs_4 (15) (by omega)).trans hV.1))))), ((va_up_ne _ _ (by decide)).trans ((hs_24 (16) (by omega)).trans ((va_up_ne _ _ (by decide)).trans ((hs_16 (16) (by omega)).trans ((hs_4 (16) (by omega)).trans hV.2.1))))), (va_up_self _ _ _), ((va_up_ne _ _ (by decide)).trans ((hs_24 (18) (by omega)).trans ((va_up_ne _ _ (by decide)).trans ((hs_16 (18) (by omega)).trans ((hs_4 (18) (by omega)).trans hV.2.2.2)))))⟩, ⟨((va_up_ne _ _ (by decide)).trans hP_31), ((va_up_ne _ _ (by decide)).trans hP_21.2)⟩, (by omega), (by omega), (by omega), (fun q => absurd rfl q), (fun _ => ⟨rfl, rfl⟩)⟩ (((((sm.rf.tr (hs_4.mono (by omega) (by omega))).tr (hs_16.mono (by omega) (by omega))).up (by omega) (by omega)).tr (hs_24.mono (by omega) (by omega))).up (by omega) (by omega))
  · skip
    refine w_vret O dX2_readAdded_9 ?_
    have hn0 := of_decide_eq_false c_9
    have eF : fAdd bs ln Z pl = (aM bs ln 2 pl, tkB bs ln pl) := by unfold fAdd; rw [tlC_n hn0]; exact orF_no hn0
    rw [eF] at hQ
    exact hQ _ ⟨_, (Z.1, Z.2.1, Z.2.2.1, Z.2.2.2.1, Z.2.2.2.2), _, _, _, _, hC_2, ⟨((hs_4 (15) (by omega)).trans hV.1), ((hs_4 (16) (by omega)).trans hV.2.1), ((hs_4 (17) (by omega)).trans hV.2.2.1), ((hs_4 (18) (by omega)).trans hV.2.2.2)⟩, ⟨hP_1.1, hP_1.2⟩, (by omega), (by omega), (by omega), hf_3, (fun q => absurd q hn0)⟩ (sm.rf.tr (hs_4.mono (by omega) (by omega)))
set_option maxRecDepth 100000 in
set_option maxHeartbeats 4000000 in
theorem f_X2_readAsked {G : gb_G} (hW : gW G) {Q : Option Value → gb_M → Prop} {mM : gb_M} {bs : Nat → Nat} {ln pl so sa nu : Nat} (hP : isP G mM bs ln pl so sa nu) (hln : ln ≤ 160) (hbs : ∀ k, k < ln → bs k ≤ 127) (hpl : pl ≤ ln) (hsa : sa ≤ 160) (hso : so ≤ 4) {Z : Sc} {fp : Nat} (hC : isC G mM 0 fp Z.2.1 Z.2.2.1 Z.2.2.2.1 Z.2.2.2.2) (hV : isT G mM 15 Z.1) (hZ : Z.2.1 < 16 ∧ Z.2.2.1 < 16 ∧ Z.2.2.2.1 < 16)  (hQ : ∀ M', LnP G M' bs ln (fAsk bs ln Z sa pl) (tkE bs ln (tkE bs ln pl)) (uAsk bs ln Z pl) → sm mM M' 12 18 → Q none M') : Fn G 4 yX2_readAsked cX2_readAsked 2 none [.ref (gb_ad G 14), .ref (gb_ad G 12)] mM Q := by
  have hN := hW.2.2.1
  refine Fn.of hW.1 [(0, .ref (gb_ad G 14)), (1, .ref (gb_ad G 12))] (by decide) (Nat.le_of_ble_eq_true rfl) rfl ?_
  intro X O
  refine w_aload_n (n := 1) O dX2_readAsked_0 rfl rfl rfl ?_
  refine w_getf (n := 4) O 6 dX2_readAsked_1 (by omega) hC rfl (by decide) uX2 uf_X2_34 rfl rfl ?_
  refine w_if_eqB (n := 7) (tgt := 18) O dX2_readAsked_4 (by decide) rfl (fun c_1 => ?_) (fun c_1 => ?_)
  · skip
    refine w_aload_n (n := 19) O dX2_readAsked_18 rfl rfl rfl ?_
    refine w_iconst (n := 20) O dX2_readAsked_19 (v := (nI 1)) (by decide) rfl ?_
    refine w_top (bI true) (by decide) ?_
    refine w_putf (n := 23) (fs' := [.ref (gb_ad G 15), .int (nI 0), .int (nI (fp)), .int (nI (Z.2.1)), .int (nI (Z.2.2.1)), .int (nI (Z.2.2.2.1)), .int (bI (true))]) O 6 dX2_readAsked_20 (by omega) hC rfl (by decide) uX2 uf_X2_34 tyX2 tyX2_ok nmX2 rfl (bI_nar _) (bI_fit _) (Nat.le_of_ble_eq_true rfl) rfl rfl ?_
    refine w_aload_n (n := 24) O dX2_readAsked_23 rfl rfl rfl ?_
    refine w_aload_n (n := 25) O dX2_readAsked_24 rfl rfl rfl ?_
    refine w_iconst (n := 26) O dX2_readAsked_25 (v := (nI 3)) (by decide) rfl ?_
    refine w_bipush (n := 28) O dX2_readAsked_26 (v := (nI 12)) (by decide) rfl ?_
    refine w_cV (n := 31) (ro := some (.int (bI (decide (aN bs ln 3 12 pl = 0))))) (R := fun mM' => ∃ fp', isP G mM' bs ln (tkE bs ln pl) (tkS bs ln pl) (tkB bs ln pl) (tkU bs ln pl nu) ∧ isC G mM' (aN bs ln 3 12 pl) fp' Z.2.1 Z.2.2.1 Z.2.2.2.1 true ∧ (aN bs ln 3 12 pl ≠ 0 → fp' = tkB bs ln pl) ∧ sm (va_up mM (14) (.inr (2, [.ref (gb_ad G 15), .int (nI 0), .int (nI (fp)), .int (nI (Z.2.1)), .int (nI (Z.2.2.1)), .int (nI (Z.2.2.2.1)), .int (bI (true))]))) mM' 12 14) (st := []) (st1 := [.int (bI (decide (aN bs ln 3 12 pl = 0)))]) (As := [.ref (gb_ad G 12), .int (nI 3), .int (nI 12)]) (b := 14) O dX2_readAsked_28 ul_X2_120 um_X2_readNumber (f_X2_readNumber hW ⟨((va_up_ne _ _ (by decide)).trans hP.1), ((va_up_ne _ _ (by decide)).trans hP.2)⟩ hln hbs (by omega) (by omega) (by omega) (va_up_self _ _ _) (by decide) (by decide) (fun M' a h1 h2 h3 h4 => ⟨rfl, a, h1, h2, h3, h4⟩)) rfl (by omega) (va_up_self _ _ _) rfl rfl rfl rfl (by decide) (Nat.le_of_ble_eq_true rfl) rfl (fun mhM_7 hM_7 => ?_)
    obtain ⟨fp_6, hP_2, hC_3, hf_4, hs_5⟩ := hM_7
    have bhP_2 := tkE_le (bs := bs) (ln := ln) (p := pl) (by omega)
    have chP_2 := tkB_le (bs := bs) (ln := ln) (p := pl) (by omega)
    have dhP_2 := tkE_ge bs ln pl
    have ehP_2 := tkS_le bs ln pl
    refine w_if_neB (n := 34) (tgt := 35) O dX2_readAsked_31 (by decide) rfl (fun c_8 => ?_) (fun c_8 => ?_)
    · skip
      have e0_10 := of_decide_eq_true c_8
      have hz_9 := aN_0 e0_10
      have hC_11 : isC G mhM_7 0 fp_6 Z.2.1 Z.2.2.1 Z.2.2.2.1 true := Eq.mp (congrArg (fun x => isC G mhM_7 x fp_6 Z.2.1 Z.2.2.1 Z.2.2.2.1 true) e0_10) hC_3
      have hP_12 := hP_2.1
      rw [tkU_3 hz_9.1] at hP_12
      refine w_aload_n (n := 36) O dX2_readAsked_35 rfl rfl rfl ?_
      refine w_getf (n := 39) O 0 dX2_readAsked_36 (by omega) hC_11 rfl (by decide) uX2 uf_X2_12 rfl rfl ?_
      refine w_aload_n (n := 40) O dX2_readAsked_39 rfl rfl rfl ?_
      refine w_getf (n := 43) O 5 dX2_readAsked_40 (by omega) hP_12 rfl (by decide) uX4 uf_X2_113 rfl rfl ?_
      refine w_putf (n := 46) (fs' := [.ref (gb_ad G 16), .ref (gb_ad G 17), .ref (gb_ad G 18), .int (nI (Z.1.2.2.2.1)), .int (nI (tkV bs ln pl)), .int (nI (Z.1.2.2.2.2.2.1)), .int (nI (Z.1.2.2.2.2.2.2))]) O 4 dX2_readAsked_43 (by omega) ((hs_5 (15) (by omega)).trans ((va_up_ne _ _ (by decide)).trans hV.1)) rfl (by decide) uX5 uf_X2_131 tyX5 tyX5_ok nmX5 rfl rfl rfl (Nat.le_of_ble_eq_true rfl) rfl rfl ?_
      refine w_aload_n (n := 47) O dX2_readAsked_46 rfl rfl rfl ?_
      refine w_aload_n (n := 48) O dX2_readAsked_47 rfl rfl rfl ?_
      refine w_iconst (n := 49) O dX2_readAsked_48 (v := (nI 0)) (by decide) rfl ?_
      refine w_bipush (n := 51) O dX2_readAsked_49 (v := (nI 10)) (by decide) rfl ?_
      refine w_cV (n := 54) (ro := some (.int (bI (decide (aN bs ln 0 10 (tkE bs ln pl) = 0))))) (R := fun mM' => ∃ fp', isP G mM' bs ln (tkE bs ln (tkE bs ln pl)) (tkS bs ln (tkE bs ln pl)) (tkB bs ln (tkE bs ln pl)) (tkU bs ln (tkE bs ln pl) (tkV bs ln pl)) ∧ isC G mM' (aN bs ln 0 10 (tkE bs ln pl)) fp' Z.2.1 Z.2.2.1 Z.2.2.2.1 true ∧ (aN bs ln 0 10 (tkE bs ln pl) ≠ 0 → fp' = tkB bs ln (tkE bs ln pl)) ∧ sm (va_up mhM_7 (15) (.inr (5, [.ref (gb_ad G 16), .ref (gb_ad G 17), .ref (gb_ad G 18), .int (nI (Z.1.2.2.2.1)), .int (nI (tkV bs ln pl)), .int (nI (Z.1.2.2.2.2.2.1)), .int (nI (Z.1.2.2.2.2.2.2))]))) mM' 12 14) (st := []) (st1 := [.int (bI (decide (aN bs ln 0 10 (tkE bs ln pl) = 0)))]) (As := [.ref (gb_ad G 12), .int (nI 0), .int (nI 10)]) (b := 14) O dX2_readAsked_51 ul_X2_120 um_X2_readNumber (f_X2_readNumber hW ⟨((va_up_ne _ _ (by decide)).trans hP_12), ((va_up_ne _ _ (by decide)).trans hP_2.2)⟩ hln hbs (by omega) (by omega) (by omega) ((va_up_ne _ _ (by decide)).trans hC_11) (by decide) (by decide) (fun M' a h1 h2 h3 h4 => ⟨rfl, a, h1, h2, h3, h4⟩)) rfl (by omega) ((va_up_ne _ _ (by decide)).trans hC_11) rfl rfl rfl rfl (by decide) (Nat.le_of_ble_eq_true rfl) rfl (fun mhM_18 hM_18 => ?_)
      obtain ⟨fp_17, hP_13, hC_14, hf_15, hs_16⟩ := hM_18
      have bhP_13 := tkE_le (bs := bs) (ln := ln) (p := (tkE bs ln pl)) (by omega)
      have chP_13 := tkB_le (bs := bs) (ln := ln) (p := (tkE bs ln pl)) (by omega)
      have dhP_13 := tkE_ge bs ln (tkE bs ln pl)
      have ehP_13 := tkS_le bs ln (tkE bs ln pl)
      refine w_if_eqB (n := 57) (tgt := 68) O dX2_readAsked_54 (by decide) rfl (fun c_19 => ?_) (fun c_19 => ?_)
      · skip
        refine w_vret O dX2_readAsked_68 ?_
        have hn0 := of_decide_eq_false c_19
        have eF : fAsk bs ln Z sa pl = (aN bs ln 0 10 (tkE bs ln pl), tkB bs ln (tkE bs ln pl)) := by unfold fAsk; exact orF_ok (if_neg (by rw [c_1]; decide)) (orF_ok e0_10 rfl)
        rw [eF] at hQ
        exact hQ _ ⟨_, ((Z.1.1, Z.1.2.1, Z.1.2.2.1, Z.1.2.2.2.1, tkV bs ln pl, Z.1.2.2.2.2.2.1, Z.1.2.2.2.2.2.2), Z.2.1, Z.2.2.1, Z.2.2.2.1, true), _, _, _, _, hC_14, ⟨((hs_16 (15) (by omega)).trans (va_up_self _ _ _)), ((hs_16 (16) (by omega)).trans ((va_up_ne _ _ (by decide)).trans ((hs_5 (16) (by omega)).trans ((va_up_ne _ _ (by decide)).trans hV.2.1)))), ((hs_16 (17) (by omega)).trans ((va_up_ne _ _ (by decide)).trans ((hs_5 (17) (by omega)).trans ((va_up_ne _ _ (by decide)).trans hV.2.2.1)))), ((hs_16 (18) (by omega)).trans ((va_up_ne _ _ (by decide)).trans ((hs_5 (18) (by omega)).trans ((va_up_ne _ _ (by decide)).trans hV.2.2.2))))⟩, ⟨hP_13.1, hP_13.2⟩, (by omega), (by omega), (by omega), hf_15, (fun q => absurd q hn0)⟩ ((((sm.rf.up (by omega) (by omega)).tr (hs_5.mono (by omega) (by omega))).up (by omega) (by omega)).tr (hs_16.mono (by omega) (by omega)))
      · skip
        have e0_21 := of_decide_eq_true c_19
        have hz_20 := aN_0 e0_21
        have hC_22 : isC G mhM_18 0 fp_17 Z.2.1 Z.2.2.1 Z.2.2.2.1 true := Eq.mp (congrArg (fun x => isC G mhM_18 x fp_17 Z.2.1 Z.2.2.1 Z.2.2.2.1 true) e0_21) hC_14
        have hP_23 := hP_13.1
        rw [tkU_3 hz_20.1] at hP_23
        refine w_aload_n (n := 58) O dX2_readAsked_57 rfl rfl rfl ?_
        refine w_getf (n := 61) O 0 dX2_readAsked_58 (by omega) hC_22 rfl (by decide) uX2 uf_X2_12 rfl rfl ?_
        refine w_aload_n (n := 62) O dX2_readAsked_61 rfl rfl rfl ?_
        refine w_getf (n := 65) O 5 dX2_readAsked_62 (by omega) hP_23 rfl (by decide) uX4 uf_X2_113 rfl rfl ?_
        refine w_putf (n := 68) (fs' := [.ref (gb_ad G 16), .ref (gb_ad G 17), .ref (gb_ad G 18), .int (nI (Z.1.2.2.2.1)), .int (nI (tkV bs ln pl)), .int (nI (tkV bs ln (tkE bs ln pl))), .int (nI (Z.1.2.2.2.2.2.2))]) O 5 dX2_readAsked_65 (by omega) ((hs_16 (15) (by omega)).trans (va_up_self _ _ _)) rfl (by decide) uX5 uf_X2_134 tyX5 tyX5_ok nmX5 rfl rfl rfl (Nat.le_of_ble_eq_true rfl) rfl rfl ?_
        refine w_vret O dX2_readAsked_68 ?_
        have eF : fAsk bs ln Z sa pl = (0, tkB bs ln (tkE bs ln pl)) := by unfold fAsk; exact orF_ok (if_neg (by rw [c_1]; decide)) (orF_ok e0_10 (by rw [e0_21]))
        rw [eF] at hQ
        exact hQ _ ⟨_, ((Z.1.1, Z.1.2.1, Z.1.2.2.1, Z.1.2.2.2.1, tkV bs ln pl, tkV bs ln (tkE bs ln pl), Z.1.2.2.2.2.2.2), Z.2.1, Z.2.2.1, Z.2.2.2.1, true), _, _, _, _, ((va_up_ne _ _ (by decide)).trans hC_22), ⟨(va_up_self _ _ _), ((va_up_ne _ _ (by decide)).trans ((hs_16 (16) (by omega)).trans ((va_up_ne _ _ (by decide)).trans ((hs_5 (16) (by omega)).trans ((va_up_ne _ _ (by decide)).trans hV.2.1))))), ((va_up_ne _ _ (by decide)).trans ((hs_16 (17) (by omega)).trans ((va_up_ne _ _ (by decide)).trans ((hs_5 (17) (by omega)).trans ((va_up_ne _ _ (by decide)).trans hV.2.2.1))))), ((va_up_ne _ _ (by decide)).trans ((hs_16 (18) (by omega)).trans ((va_up_ne _ _ (by decide)).trans ((hs_5 (18) (by omega)).trans ((va_up_ne _ _ (by decide)).trans hV.2.2.2)))))⟩, ⟨((va_up_ne _ _ (by decide)).trans hP_23), ((va_up_ne _ _ (by decide)).trans hP_13.2)⟩, (by omega), (by omega), (by omega), (fun q => absurd rfl q), (fun _ => ⟨rfl, rfl⟩)⟩ (((((sm.rf.up (by omega) (by omega)).tr (hs_5.mono (by omega) (by omega))).up (by omega) (by omega)).tr (hs_16.mono (by omega) (by omega))).up (by omega) (by omega))
    · skip
      refine w_vret O dX2_readAsked_34 ?_
      have hn0 := of_decide_eq_false c_8
      have eF : fAsk bs ln Z sa pl = (aN bs ln 3 12 pl, tkB bs ln pl) := by unfold fAsk; exact orF_ok (if_neg (by rw [c_1]; decide)) (orF_no hn0)
      rw [eF] at hQ
      exact hQ _ ⟨_, (Z.1, Z.2.1, Z.2.2.1, Z.2.2.2.1, true), _, _, _, _, hC_3, ⟨((hs_5 (15) (by omega)).trans ((va_up_ne _ _ (by decide)).trans hV.1)), ((hs_5 (16) (by omega)).trans ((va_up_ne _ _ (by decide)).trans hV.2.1)), ((hs_5 (17) (by omega)).trans ((va_up_ne _ _ (by decide)).trans hV.2.2.1)), ((hs_5 (18) (by omega)).trans ((va_up_ne _ _ (by decide)).trans hV.2.2.2))⟩, ⟨hP_2.1, hP_2.2⟩, (by omega), (by omega), (by omega), hf_4, (fun q => absurd q hn0)⟩ ((sm.rf.up (by omega) (by omega)).tr (hs_5.mono (by omega) (by omega)))
  · skip
    refine w_aload_n (n := 8) O dX2_readAsked_7 rfl rfl rfl ?_
    refine w_iconst (n := 9) O dX2_readAsked_8 (v := (nI 4)) (by decide) rfl ?_
    refine w_aload_n (n := 10) O dX2_readAsked_9 rfl rfl rfl ?_
    refine w_getf (n := 13) O 4 dX2_readAsked_10 (by omega) hP.1 rfl (by decide) uX4 uf_X2_102 rfl rfl ?_
    refine w_cV (n := 16) (ro := some (.int (bI (false)))) (R := fun mM' => isC G mM' 4 sa Z.2.1 Z.2.2.1 Z.2.2.2.1 Z.2.2.2.2 ∧ sm mM mM' 14 14) (st := []) (st1 := [.int (bI (false))]) (As := [.int (nI 4), .int (nI (sa))]) (b := 14) O dX2_readAsked_13 ul_X2_60 um_X2_refuse (f_X2_refuse hW hC (fun M' h1 h2 => ⟨rfl, h1, h2⟩)) rfl (by omega) hC rfl rfl rfl rfl (by decide) (Nat.le_of_ble_eq_true rfl) rfl (fun mhM_26 hM_26 => ?_)
    obtain ⟨hC_24, hs_25⟩ := hM_26
    refine w_pop (n := 17) O dX2_readAsked_16 rfl rfl ?_
    refine w_vret O dX2_readAsked_17 ?_
    have eF : fAsk bs ln Z sa pl = (4, sa) := by unfold fAsk; rw [if_pos c_1]; exact orF_no (by decide)
    rw [eF] at hQ
    exact hQ _ ⟨_, (Z.1, Z.2.1, Z.2.2.1, Z.2.2.2.1, Z.2.2.2.2), _, _, _, _, hC_24, ⟨((hs_25 (15) (by omega)).trans hV.1), ((hs_25 (16) (by omega)).trans hV.2.1), ((hs_25 (17) (by omega)).trans hV.2.2.1), ((hs_25 (18) (by omega)).trans hV.2.2.2)⟩, ⟨((hs_25 (12) (by omega)).trans hP.1), ((hs_25 (13) (by omega)).trans hP.2)⟩, (by omega), (by omega), (by omega), (fun _ => rfl), (fun q => absurd q (Nat.succ_ne_zero _))⟩ (sm.rf.tr (hs_25.mono (by omega) (by omega)))
set_option maxRecDepth 100000 in
set_option maxHeartbeats 4000000 in
theorem f_X2_readGiver {G : gb_G} (hW : gW G) {Q : Option Value → gb_M → Prop} {mM : gb_M} {bs : Nat → Nat} {ln pl so sa nu : Nat} (hP : isP G mM bs ln pl so sa nu) (hln : ln ≤ 160) (hbs : ∀ k, k < ln → bs k ≤ 127) (hpl : pl ≤ ln) (hsa : sa ≤ 160) (hso : so ≤ 4) {Z : Sc} {fp : Nat} (hC : isC G mM 0 fp Z.2.1 Z.2.2.1 Z.2.2.2.1 Z.2.2.2.2) (hV : isT G mM 15 Z.1) (hZ : Z.2.1 < 16 ∧ Z.2.2.1 < 16 ∧ Z.2.2.2.1 < 16) (hg4 : Z.1.2.2.2.1 ≤ 4) {k : Nat} (hk3 : k ≤ 3)  (hQ : ∀ M', LnP G M' bs ln (fGiv bs ln Z sa pl) (tkE bs ln (tkE bs ln (tkE bs ln pl))) (uGiv bs ln Z k pl) → sm mM M' 12 18 → Q none M') : Fn G 7 yX2_readGiver cX2_readGiver 4 none [.ref (gb_ad G 14), .ref (gb_ad G 12), .int (nI (k))] mM Q := by
  have hN := hW.2.2.1
  refine Fn.of hW.1 [(0, .ref (gb_ad G 14)), (1, .ref (gb_ad G 12)), (2, .int (nI (k)))] (by decide) (Nat.le_of_ble_eq_true rfl) rfl ?_
  intro X O
  refine w_aload_n (n := 1) O dX2_readGiver_0 rfl rfl rfl ?_
  refine w_getf (n := 4) O 0 dX2_readGiver_1 (by omega) hC rfl (by decide) uX2 uf_X2_12 rfl rfl ?_
  refine w_getf (n := 7) O 3 dX2_readGiver_4 (by omega) hV.1 rfl (by decide) uX5 uf_X2_54 rfl rfl ?_
  refine w_iconst (n := 8) O dX2_readGiver_7 (v := (nI 4)) (by decide) rfl ?_
  refine w_icmp_ltN (n := 11) (tgt := 22) O dX2_readGiver_8 (by omega) (by omega) (by decide) rfl (fun c_1 => ?_) (fun c_1 => ?_)
  · skip
    refine w_aload_n (n := 23) O dX2_readGiver_22 rfl rfl rfl ?_
    refine w_getf (n := 26) O 0 dX2_readGiver_23 (by omega) hC rfl (by decide) uX2 uf_X2_12 rfl rfl ?_
    refine w_getf (n := 29) O 3 dX2_readGiver_26 (by omega) hV.1 rfl (by decide) uX5 uf_X2_54 rfl rfl ?_
    refine w_istore_n (n := 30) (lv' := [(3, .int (nI (Z.1.2.2.2.1))), (0, .ref (gb_ad G 14)), (1, .ref (gb_ad G 12)), (2, .int (nI (k)))]) O dX2_readGiver_29 rfl (by decide) rfl rfl ?_
    refine w_aload_n (n := 31) O dX2_readGiver_30 rfl rfl rfl ?_
    refine w_getf (n := 34) O 0 dX2_readGiver_31 (by omega) hC rfl (by decide) uX2 uf_X2_12 rfl rfl ?_
    refine w_iload_n (n := 35) O dX2_readGiver_34 rfl rfl rfl ?_
    refine w_iconst (n := 36) O dX2_readGiver_35 (v := (nI 0)) (by decide) rfl ?_
    refine w_iload_n (n := 37) O dX2_readGiver_36 rfl rfl rfl ?_
    refine w_cV (n := 40) (ro := none) (R := fun mM' => isT G mM' (15) (upN Z.1.1 (Z.1.2.2.2.1 * 6 + 0) k, Z.1.2) ∧ sm mM mM' (15) (15 + 3)) (st := []) (st1 := []) (As := [.int (nI (Z.1.2.2.2.1)), .int (nI 0), .int (nI (k))]) (b := 15) O dX2_readGiver_37 ul_X2_105 um_X5_setTrait (f_X5_setTrait (T := Z.1) hW ⟨hV.1, hV.2.1, hV.2.2.1, hV.2.2.2⟩ (by omega) (by omega) (fun M' h1 h2 => ⟨rfl, h1, h2⟩)) rfl (by omega) hV.1 rfl rfl rfl rfl (by omega) (Nat.le_of_ble_eq_true rfl) rfl (fun mhM_2 hM_2 => ?_)
    obtain ⟨hThM_2, hshM_2⟩ := hM_2
    refine w_aload_n (n := 41) O dX2_readGiver_40 rfl rfl rfl ?_
    refine w_aload_n (n := 42) O dX2_readGiver_41 rfl rfl rfl ?_
    refine w_iconst (n := 43) O dX2_readGiver_42 (v := (nI 3)) (by decide) rfl ?_
    refine w_cV (n := 46) (ro := some (.int (bI (decide (aM bs ln 3 pl = 0))))) (R := fun mM' => ∃ fp' nu', isP G mM' bs ln (tkE bs ln pl) (tkS bs ln pl) (tkB bs ln pl) nu' ∧ isC G mM' (aM bs ln 3 pl) fp' Z.2.1 Z.2.2.1 Z.2.2.2.1 Z.2.2.2.2 ∧ (aM bs ln 3 pl ≠ 0 → fp' = tkB bs ln pl) ∧ (aM bs ln 3 pl = 0 → nu' = mAt bs ln pl) ∧ sm mhM_2 mM' 12 14) (st := []) (st1 := [.int (bI (decide (aM bs ln 3 pl = 0)))]) (As := [.ref (gb_ad G 12), .int (nI 3)]) (b := 14) O dX2_readGiver_43 ul_X2_109 um_X2_readMetal (f_X2_readMetal hW ⟨((hshM_2 (12) (by omega)).trans hP.1), ((hshM_2 (13) (by omega)).trans hP.2)⟩ hln hbs (by omega) (by omega) (by omega) ((hshM_2 (14) (by omega)).trans hC) (by decide) (fun M' a b h1 h2 h3 h4 h5 => ⟨rfl, a, b, h1, h2, h3, h4, h5⟩)) rfl (by omega) ((hshM_2 (14) (by omega)).trans hC) rfl rfl rfl rfl (by decide) (Nat.le_of_ble_eq_true rfl) rfl (fun mhM_10 hM_10 => ?_)
    obtain ⟨fp_7, nu_8, hP_3, hC_4, hf_5, hu_9, hs_6⟩ := hM_10
    have bhP_3 := tkE_le (bs := bs) (ln := ln) (p := pl) (by omega)
    have chP_3 := tkB_le (bs := bs) (ln := ln) (p := pl) (by omega)
    have dhP_3 := tkE_ge bs ln pl
    have ehP_3 := tkS_le bs ln pl
    refine w_if_neB (n := 49) (tgt := 50) O dX2_readGiver_46 (by decide) rfl (fun c_11 => ?_) (fun c_11 => ?_)
    · skip
      have e0_13 := of_decide_eq_true c_11
      have hz_12 := aM_0 e0_13
      have hC_14 : isC G mhM_10 0 fp_7 Z.2.1 Z.2.2.1 Z.2.2.2.1 Z.2.2.2.2 := Eq.mp (congrArg (fun x => isC G mhM_10 x fp_7 Z.2.1 Z.2.2.1 Z.2.2.2.1 Z.2.2.2.2) e0_13) hC_4
      have hP_15 := hP_3.1
      rw [hu_9 e0_13] at hP_15
      refine w_aload_n (n := 51) O dX2_readGiver_50 rfl rfl rfl ?_
      refine w_getf (n := 54) O 0 dX2_readGiver_51 (by omega) hC_14 rfl (by decide) uX2 uf_X2_12 rfl rfl ?_
      refine w_iload_n (n := 55) O dX2_readGiver_54 rfl rfl rfl ?_
      refine w_iconst (n := 56) O dX2_readGiver_55 (v := (nI 2)) (by decide) rfl ?_
      refine w_aload_n (n := 57) O dX2_readGiver_56 rfl rfl rfl ?_
      refine w_getf (n := 60) O 5 dX2_readGiver_57 (by omega) hP_15 rfl (by decide) uX4 uf_X2_113 rfl rfl ?_
      refine w_cV (n := 63) (ro := none) (R := fun mM' => isT G mM' (15) (upN (upN Z.1.1 (Z.1.2.2.2.1 * 6 + 0) k, Z.1.2).1 (Z.1.2.2.2.1 * 6 + 2) (mAt bs ln pl), (upN Z.1.1 (Z.1.2.2.2.1 * 6 + 0) k, Z.1.2).2) ∧ sm mhM_10 mM' (15) (15 + 3)) (st := []) (st1 := []) (As := [.int (nI (Z.1.2.2.2.1)), .int (nI 2), .int (nI (mAt bs ln pl))]) (b := 15) O dX2_readGiver_60 ul_X2_105 um_X5_setTrait (f_X5_setTrait (T := (upN Z.1.1 (Z.1.2.2.2.1 * 6 + 0) k, Z.1.2)) hW ⟨((hs_6 (15) (by omega)).trans hThM_2.1), ((hs_6 (16) (by omega)).trans hThM_2.2.1), ((hs_6 (17) (by omega)).trans hThM_2.2.2.1), ((hs_6 (18) (by omega)).trans hThM_2.2.2.2)⟩ (by omega) (by omega) (fun M' h1 h2 => ⟨rfl, h1, h2⟩)) rfl (by omega) ((hs_6 (15) (by omega)).trans hThM_2.1) rfl rfl rfl rfl (by omega) (Nat.le_of_ble_eq_true rfl) rfl (fun mhM_16 hM_16 => ?_)
      obtain ⟨hThM_16, hshM_16⟩ := hM_16
      refine w_aload_n (n := 64) O dX2_readGiver_63 rfl rfl rfl ?_
      refine w_aload_n (n := 65) O dX2_readGiver_64 rfl rfl rfl ?_
      refine w_iconst (n := 66) O dX2_readGiver_65 (v := (nI 0)) (by decide) rfl ?_
      refine w_getsN (n := 69) O dX2_readGiver_66 (gz_HIG hW O) (gz_NW1 hW O) rfl ?_
      refine w_iconst (n := 70) O dX2_readGiver_69 (v := (nI 1)) (by decide) rfl ?_
      refine w_tald (n := 71) O dX2_readGiver_70 (gz_HIGt hW O) (by omega) (by decide) rfl ?_
      refine w_top (nI 9) rfl ?_
      refine w_cV (n := 74) (ro := some (.int (bI (decide (aN bs ln 0 9 (tkE bs ln pl) = 0))))) (R := fun mM' => ∃ fp', isP G mM' bs ln (tkE bs ln (tkE bs ln pl)) (tkS bs ln (tkE bs ln pl)) (tkB bs ln (tkE bs ln pl)) (tkU bs ln (tkE bs ln pl) (mAt bs ln pl)) ∧ isC G mM' (aN bs ln 0 9 (tkE bs ln pl)) fp' Z.2.1 Z.2.2.1 Z.2.2.2.1 Z.2.2.2.2 ∧ (aN bs ln 0 9 (tkE bs ln pl) ≠ 0 → fp' = tkB bs ln (tkE bs ln pl)) ∧ sm mhM_16 mM' 12 14) (st := []) (st1 := [.int (bI (decide (aN bs ln 0 9 (tkE bs ln pl) = 0)))]) (As := [.ref (gb_ad G 12), .int (nI 0), .int (nI 9)]) (b := 14) O dX2_readGiver_71 ul_X2_120 um_X2_readNumber (f_X2_readNumber hW ⟨((hshM_16 (12) (by omega)).trans hP_15), ((hshM_16 (13) (by omega)).trans hP_3.2)⟩ hln hbs (by omega) (by omega) (by omega) ((hshM_16 (14) (by omega)).trans hC_14) (by decide) (by decide) (fun M' a h1 h2 h3 h4 => ⟨rfl, a, h1, h2, h3, h4⟩)) rfl (by omega) ((hshM_16 (14) (by omega)).trans hC_14) rfl rfl rfl rfl (by decide) (Nat.le_of_ble_eq_true rfl) rfl (fun mhM_22 hM_22 => ?_)
      obtain ⟨fp_21, hP_17, hC_18, hf_19, hs_20⟩ := hM_22
      have bhP_17 := tkE_le (bs := bs) (ln := ln) (p := (tkE bs ln pl)) (by omega)
      have chP_17 := tkB_le (bs := bs) (ln := ln) (p := (tkE bs ln pl)) (by omega)
      have dhP_17 := tkE_ge bs ln (tkE bs ln pl)
      have ehP_17 := tkS_le bs ln (tkE bs ln pl)
      refine w_if_neB (n := 77) (tgt := 78) O dX2_readGiver_74 (by decide) rfl (fun c_23 => ?_) (fun c_23 => ?_)
      · skip
        have e0_25 := of_decide_eq_true c_23
        have hz_24 := aN_0 e0_25
        have hC_26 : isC G mhM_22 0 fp_21 Z.2.1 Z.2.2.1 Z.2.2.2.1 Z.2.2.2.2 := Eq.mp (congrArg (fun x => isC G mhM_22 x fp_21 Z.2.1 Z.2.2.1 Z.2.2.2.1 Z.2.2.2.2) e0_25) hC_18
        have hP_27 := hP_17.1
        rw [tkU_3 hz_24.1] at hP_27
        refine w_aload_n (n := 79) O dX2_readGiver_78 rfl rfl rfl ?_
        refine w_getf (n := 82) O 0 dX2_readGiver_79 (by omega) hC_26 rfl (by decide) uX2 uf_X2_12 rfl rfl ?_
        refine w_iload_n (n := 83) O dX2_readGiver_82 rfl rfl rfl ?_
        refine w_iconst (n := 84) O dX2_readGiver_83 (v := (nI 1)) (by decide) rfl ?_
        refine w_aload_n (n := 85) O dX2_readGiver_84 rfl rfl rfl ?_
        refine w_getf (n := 88) O 5 dX2_readGiver_85 (by omega) hP_27 rfl (by decide) uX4 uf_X2_113 rfl rfl ?_
        refine w_cV (n := 91) (ro := none) (R := fun mM' => isT G mM' (15) (upN (upN (upN Z.1.1 (Z.1.2.2.2.1 * 6 + 0) k, Z.1.2).1 (Z.1.2.2.2.1 * 6 + 2) (mAt bs ln pl), (upN Z.1.1 (Z.1.2.2.2.1 * 6 + 0) k, Z.1.2).2).1 (Z.1.2.2.2.1 * 6 + 1) (tkV bs ln (tkE bs ln pl)), (upN (upN Z.1.1 (Z.1.2.2.2.1 * 6 + 0) k, Z.1.2).1 (Z.1.2.2.2.1 * 6 + 2) (mAt bs ln pl), (upN Z.1.1 (Z.1.2.2.2.1 * 6 + 0) k, Z.1.2).2).2) ∧ sm mhM_22 mM' (15) (15 + 3)) (st := []) (st1 := []) (As := [.int (nI (Z.1.2.2.2.1)), .int (nI 1), .int (nI (tkV bs ln (tkE bs ln pl)))]) (b := 15) O dX2_readGiver_88 ul_X2_105 um_X5_setTrait (f_X5_setTrait (T := (upN (upN Z.1.1 (Z.1.2.2.2.1 * 6 + 0) k, Z.1.2).1 (Z.1.2.2.2.1 * 6 + 2) (mAt bs ln pl), (upN Z.1.1 (Z.1.2.2.2.1 * 6 + 0) k, Z.1.2).2)) hW ⟨((hs_20 (15) (by omega)).trans hThM_16.1), ((hs_20 (16) (by omega)).trans hThM_16.2.1), ((hs_20 (17) (by omega)).trans hThM_16.2.2.1), ((hs_20 (18) (by omega)).trans hThM_16.2.2.2)⟩ (by omega) (by omega) (fun M' h1 h2 => ⟨rfl, h1, h2⟩)) rfl (by omega) ((hs_20 (15) (by omega)).trans hThM_16.1) rfl rfl rfl rfl (by omega) (Nat.le_of_ble_eq_true rfl) rfl (fun mhM_28 hM_28 => ?_)
        obtain ⟨hThM_28, hshM_28⟩ := hM_28
        refine w_aload_n (n := 92) O dX2_readGiver_91 rfl rfl rfl ?_
        refine w_aload_n (n := 93) O dX2_readGiver_92 rfl rfl rfl ?_
        refine w_iconst (n := 94) O dX2_readGiver_93 (v := (nI 0)) (by decide) rfl ?_
        refine w_getsN (n := 97) O dX2_readGiver_94 (gz_HIG hW O) (gz_NW1 hW O) rfl ?_
        refine w_iconst (n := 98) O dX2_readGiver_97 (v := (nI 3)) (by decide) rfl ?_
        refine w_tald (n := 99) O dX2_readGiver_98 (gz_HIGt hW O) (by omega) (by decide) rfl ?_
        refine w_top (nI 3) rfl ?_
        refine w_cV (n := 102) (ro := some (.int (bI (decide (aN bs ln 0 3 (tkE bs ln (tkE bs ln pl)) = 0))))) (R := fun mM' => ∃ fp', isP G mM' bs ln (tkE bs ln (tkE bs ln (tkE bs ln pl))) (tkS bs ln (tkE bs ln (tkE bs ln pl))) (tkB bs ln (tkE bs ln (tkE bs ln pl))) (tkU bs ln (tkE bs ln (tkE bs ln pl)) (tkV bs ln (tkE bs ln pl))) ∧ isC G mM' (aN bs ln 0 3 (tkE bs ln (tkE bs ln pl))) fp' Z.2.1 Z.2.2.1 Z.2.2.2.1 Z.2.2.2.2 ∧ (aN bs ln 0 3 (tkE bs ln (tkE bs ln pl)) ≠ 0 → fp' = tkB bs ln (tkE bs ln (tkE bs ln pl))) ∧ sm mhM_28 mM' 12 14) (st := []) (st1 := [.int (bI (decide (aN bs ln 0 3 (tkE bs ln (tkE bs ln pl)) = 0)))]) (As := [.ref (gb_ad G 12), .int (nI 0), .int (nI 3)]) (b := 14) O dX2_readGiver_99 ul_X2_120 um_X2_readNumber (f_X2_readNumber hW ⟨((hshM_28 (12) (by omega)).trans hP_27), ((hshM_28 (13) (by omega)).trans hP_17.2)⟩ hln hbs (by omega) (by omega) (by omega) ((hshM_28 (14) (by omega)).trans hC_26) (by decide) (by decide) (fun M' a h1 h2 h3 h4 => ⟨rfl, a, h1, h2, h3, h4⟩)) rfl (by omega) ((hshM_28 (14) (by omega)).trans hC_26) rfl rfl rfl rfl (by decide) (Nat.le_of_ble_eq_true rfl) rfl (fun mhM_34 hM_34 => ?_)
        obtain ⟨fp_33, hP_29, hC_30, hf_31, hs_32⟩ := hM_34
        have bhP_29 := tkE_le (bs := bs) (ln := ln) (p := (tkE bs ln (tkE bs ln pl))) (by omega)
        have chP_29 := tkB_le (bs := bs) (ln := ln) (p := (tkE bs ln (tkE bs ln pl))) (by omega)
        have dhP_29 := tkE_ge bs ln (tkE bs ln (tkE bs ln pl))
        have ehP_29 := tkS_le bs ln (tkE bs ln (tkE bs ln pl))
        refine w_if_neB (n := 105) (tgt := 106) O dX2_readGiver_102 (by decide) rfl (fun c_35 => ?_) (fun c_35 => ?_)
        · skip
          have e0_37 := of_decide_eq_true c_35
          have hz_36 := aN_0 e0_37
          have hC_38 : isC G mhM_34 0 fp_33 Z.2.1 Z.2.2.1 Z.2.2.2.1 Z.2.2.2.2 := Eq.mp (congrArg (fun x => isC G mhM_34 x fp_33 Z.2.1 Z.2.2.1 Z.2.2.2.1 Z.2.2.2.2) e0_37) hC_30
          have hP_39 := hP_29.1
          rw [tkU_3 hz_36.1] at hP_39
          refine w_aload_n (n := 107) O dX2_readGiver_106 rfl rfl rfl ?_
          refine w_getf (n := 110) O 0 dX2_readGiver_107 (by omega) hC_38 rfl (by decide) uX2 uf_X2_12 rfl rfl ?_
          refine w_iload_n (n := 111) O dX2_readGiver_110 rfl rfl rfl ?_
          refine w_iconst (n := 112) O dX2_readGiver_111 (v := (nI 3)) (by decide) rfl ?_
          refine w_aload_n (n := 113) O dX2_readGiver_112 rfl rfl rfl ?_
          refine w_getf (n := 116) O 5 dX2_readGiver_113 (by omega) hP_39 rfl (by decide) uX4 uf_X2_113 rfl rfl ?_
          refine w_cV (n := 119) (ro := none) (R := fun mM' => isT G mM' (15) (upN (upN (upN (upN Z.1.1 (Z.1.2.2.2.1 * 6 + 0) k, Z.1.2).1 (Z.1.2.2.2.1 * 6 + 2) (mAt bs ln pl), (upN Z.1.1 (Z.1.2.2.2.1 * 6 + 0) k, Z.1.2).2).1 (Z.1.2.2.2.1 * 6 + 1) (tkV bs ln (tkE bs ln pl)), (upN (upN Z.1.1 (Z.1.2.2.2.1 * 6 + 0) k, Z.1.2).1 (Z.1.2.2.2.1 * 6 + 2) (mAt bs ln pl), (upN Z.1.1 (Z.1.2.2.2.1 * 6 + 0) k, Z.1.2).2).2).1 (Z.1.2.2.2.1 * 6 + 3) (tkV bs ln (tkE bs ln (tkE bs ln pl))), (upN (upN (upN Z.1.1 (Z.1.2.2.2.1 * 6 + 0) k, Z.1.2).1 (Z.1.2.2.2.1 * 6 + 2) (mAt bs ln pl), (upN Z.1.1 (Z.1.2.2.2.1 * 6 + 0) k, Z.1.2).2).1 (Z.1.2.2.2.1 * 6 + 1) (tkV bs ln (tkE bs ln pl)), (upN (upN Z.1.1 (Z.1.2.2.2.1 * 6 + 0) k, Z.1.2).1 (Z.1.2.2.2.1 * 6 + 2) (mAt bs ln pl), (upN Z.1.1 (Z.1.2.2.2.1 * 6 + 0) k, Z.1.2).2).2).2) ∧ sm mhM_34 mM' (15) (15 + 3)) (st := []) (st1 := []) (As := [.int (nI (Z.1.2.2.2.1)), .int (nI 3), .int (nI (tkV bs ln (tkE bs ln (tkE bs ln pl))))]) (b := 15) O dX2_readGiver_116 ul_X2_105 um_X5_setTrait (f_X5_setTrait (T := (upN (upN (upN Z.1.1 (Z.1.2.2.2.1 * 6 + 0) k, Z.1.2).1 (Z.1.2.2.2.1 * 6 + 2) (mAt bs ln pl), (upN Z.1.1 (Z.1.2.2.2.1 * 6 + 0) k, Z.1.2).2).1 (Z.1.2.2.2.1 * 6 + 1) (tkV bs ln (tkE bs ln pl)), (upN (upN Z.1.1 (Z.1.2.2.2.1 * 6 + 0) k, Z.1.2).1 (Z.1.2.2.2.1 * 6 + 2) (mAt bs ln pl), (upN Z.1.1 (Z.1.2.2.2.1 * 6 + 0) k, Z.1.2).2).2)) hW ⟨((hs_32 (15) (by omega)).trans hThM_28.1), ((hs_32 (16) (by omega)).trans hThM_28.2.1), ((hs_32 (17) (by omega)).trans hThM_28.2.2.1), ((hs_32 (18) (by omega)).trans hThM_28.2.2.2)⟩ (by omega) (by omega) (fun M' h1 h2 => ⟨rfl, h1, h2⟩)) rfl (by omega) ((hs_32 (15) (by omega)).trans hThM_28.1) rfl rfl rfl rfl (by omega) (Nat.le_of_ble_eq_true rfl) rfl (fun mhM_40 hM_40 => ?_)
          obtain ⟨hThM_40, hshM_40⟩ := hM_40
          refine w_aload_n (n := 120) O dX2_readGiver_119 rfl rfl rfl ?_
          refine w_getf (n := 123) O 0 dX2_readGiver_120 (by omega) ((hshM_40 (14) (by omega)).trans hC_38) rfl (by decide) uX2 uf_X2_12 rfl rfl ?_
          refine w_dup (n := 124) O dX2_readGiver_123 rfl rfl ?_
          refine w_getf (n := 127) O 3 dX2_readGiver_124 (by omega) hThM_40.1 rfl (by decide) uX5 uf_X2_54 rfl rfl ?_
          refine w_iconst (n := 128) O dX2_readGiver_127 (v := (nI 1)) (by decide) rfl ?_
          refine w_iaddN (n := 129) O dX2_readGiver_128 rfl ?_
          refine w_putf (n := 132) (fs' := [.ref (gb_ad G 16), .ref (gb_ad G 17), .ref (gb_ad G 18), .int (nI ((((upN (upN (upN (upN Z.1.1 (Z.1.2.2.2.1 * 6 + 0) k, Z.1.2).1 (Z.1.2.2.2.1 * 6 + 2) (mAt bs ln pl), (upN Z.1.1 (Z.1.2.2.2.1 * 6 + 0) k, Z.1.2).2).1 (Z.1.2.2.2.1 * 6 + 1) (tkV bs ln (tkE bs ln pl)), (upN (upN Z.1.1 (Z.1.2.2.2.1 * 6 + 0) k, Z.1.2).1 (Z.1.2.2.2.1 * 6 + 2) (mAt bs ln pl), (upN Z.1.1 (Z.1.2.2.2.1 * 6 + 0) k, Z.1.2).2).2).1 (Z.1.2.2.2.1 * 6 + 3) (tkV bs ln (tkE bs ln (tkE bs ln pl))), (upN (upN (upN Z.1.1 (Z.1.2.2.2.1 * 6 + 0) k, Z.1.2).1 (Z.1.2.2.2.1 * 6 + 2) (mAt bs ln pl), (upN Z.1.1 (Z.1.2.2.2.1 * 6 + 0) k, Z.1.2).2).1 (Z.1.2.2.2.1 * 6 + 1) (tkV bs ln (tkE bs ln pl)), (upN (upN Z.1.1 (Z.1.2.2.2.1 * 6 + 0) k, Z.1.2).1 (Z.1.2.2.2.1 * 6 + 2) (mAt bs ln pl), (upN Z.1.1 (Z.1.2.2.2.1 * 6 + 0) k, Z.1.2).2).2).2).2.2.2.1) + 1))), .int (nI ((upN (upN (upN (upN Z.1.1 (Z.1.2.2.2.1 * 6 + 0) k, Z.1.2).1 (Z.1.2.2.2.1 * 6 + 2) (mAt bs ln pl), (upN Z.1.1 (Z.1.2.2.2.1 * 6 + 0) k, Z.1.2).2).1 (Z.1.2.2.2.1 * 6 + 1) (tkV bs ln (tkE bs ln pl)), (upN (upN Z.1.1 (Z.1.2.2.2.1 * 6 + 0) k, Z.1.2).1 (Z.1.2.2.2.1 * 6 + 2) (mAt bs ln pl), (upN Z.1.1 (Z.1.2.2.2.1 * 6 + 0) k, Z.1.2).2).2).1 (Z.1.2.2.2.1 * 6 + 3) (tkV bs ln (tkE bs ln (tkE bs ln pl))), (upN (upN (upN Z.1.1 (Z.1.2.2.2.1 * 6 + 0) k, Z.1.2).1 (Z.1.2.2.2.1 * 6 + 2) (mAt bs ln pl), (upN Z.1.1 (Z.1.2.2.2.1 * 6 + 0) k, Z.1.2).2).1 (Z.1.2.2.2.1 * 6 + 1) (tkV bs ln (tkE bs ln pl)), (upN (upN Z.1.1 (Z.1.2.2.2.1 * 6 + 0) k, Z.1.2).1 (Z.1.2.2.2.1 * 6 + 2) (mAt bs ln pl), (upN Z.1.1 (Z.1.2.2.2.1 * 6 + 0) k, Z.1.2).2).2).2).2.2.2.2.1)), .int (nI ((upN (upN (upN (upN Z.1.1 (Z.1.2.2.2.1 * 6 + 0) k, Z.1.2).1 (Z.1.2.2.2.1 * 6 + 2) (mAt bs ln pl), (upN Z.1.1 (Z.1.2.2.2.1 * 6 + 0) k, Z.1.2).2).1 (Z.1.2.2.2.1 * 6 + 1) (tkV bs ln (tkE bs ln pl)), (upN (upN Z.1.1 (Z.1.2.2.2.1 * 6 + 0) k, Z.1.2).1 (Z.1.2.2.2.1 * 6 + 2) (mAt bs ln pl), (upN Z.1.1 (Z.1.2.2.2.1 * 6 + 0) k, Z.1.2).2).2).1 (Z.1.2.2.2.1 * 6 + 3) (tkV bs ln (tkE bs ln (tkE bs ln pl))), (upN (upN (upN Z.1.1 (Z.1.2.2.2.1 * 6 + 0) k, Z.1.2).1 (Z.1.2.2.2.1 * 6 + 2) (mAt bs ln pl), (upN Z.1.1 (Z.1.2.2.2.1 * 6 + 0) k, Z.1.2).2).1 (Z.1.2.2.2.1 * 6 + 1) (tkV bs ln (tkE bs ln pl)), (upN (upN Z.1.1 (Z.1.2.2.2.1 * 6 + 0) k, Z.1.2).1 (Z.1.2.2.2.1 * 6 + 2) (mAt bs ln pl), (upN Z.1.1 (Z.1.2.2.2.1 * 6 + 0) k, Z.1.2).2).2).2).2.2.2.2.2.1)), .int (nI ((upN (upN (upN (upN Z.1.1 (Z.1.2.2.2.1 * 6 + 0) k, Z.1.2).1 (Z.1.2.2.2.1 * 6 + 2) (mAt bs ln pl), (upN Z.1.1 (Z.1.2.2.2.1 * 6 + 0) k, Z.1.2).2).1 (Z.1.2.2.2.1 * 6 + 1) (tkV bs ln (tkE bs ln pl)), (upN (upN Z.1.1 (Z.1.2.2.2.1 * 6 + 0) k, Z.1.2).1 (Z.1.2.2.2.1 * 6 + 2) (mAt bs ln pl), (upN Z.1.1 (Z.1.2.2.2.1 * 6 + 0) k, Z.1.2).2).2).1 (Z.1.2.2.2.1 * 6 + 3) (tkV bs ln (tkE bs ln (tkE bs ln pl))), (upN (upN (upN Z.1.1 (Z.1.2.2.2.1 * 6 + 0) k, Z.1.2).1 (Z.1.2.2.2.1 * 6 + 2) (mAt bs ln pl), (upN Z.1.1 (Z.1.2.2.2.1 * 6 + 0) k, Z.1.2).2).1 (Z.1.2.2.2.1 * 6 + 1) (tkV bs ln (tkE bs ln pl)), (upN (upN Z.1.1 (Z.1.2.2.2.1 * 6 + 0) k, Z.1.2).1 (Z.1.2.2.2.1 * 6 + 2) (mAt bs ln pl), (upN Z.1.1 (Z.1.2.2.2.1 * 6 + 0) k, Z.1.2).2).2).2).2.2.2.2.2.2))]) O 3 dX2_readGiver_129 (by omega) hThM_40.1 rfl (by decide) uX5 uf_X2_54 tyX5 tyX5_ok nmX5 rfl rfl rfl (Nat.le_of_ble_eq_true rfl) rfl rfl ?_
          refine w_vret O dX2_readGiver_132 ?_
          have eF : fGiv bs ln Z sa pl = (0, tkB bs ln (tkE bs ln (tkE bs ln pl))) := by unfold fGiv; exact orF_ok (if_neg (by omega)) (orF_ok e0_13 (orF_ok e0_25 (by rw [e0_37])))
          rw [eF] at hQ
          exact hQ _ ⟨_, (((upN (upN (upN (upN Z.1.1 (Z.1.2.2.2.1 * 6 + 0) k, Z.1.2).1 (Z.1.2.2.2.1 * 6 + 2) (mAt bs ln pl), (upN Z.1.1 (Z.1.2.2.2.1 * 6 + 0) k, Z.1.2).2).1 (Z.1.2.2.2.1 * 6 + 1) (tkV bs ln (tkE bs ln pl)), (upN (upN Z.1.1 (Z.1.2.2.2.1 * 6 + 0) k, Z.1.2).1 (Z.1.2.2.2.1 * 6 + 2) (mAt bs ln pl), (upN Z.1.1 (Z.1.2.2.2.1 * 6 + 0) k, Z.1.2).2).2).1 (Z.1.2.2.2.1 * 6 + 3) (tkV bs ln (tkE bs ln (tkE bs ln pl))), (upN (upN (upN Z.1.1 (Z.1.2.2.2.1 * 6 + 0) k, Z.1.2).1 (Z.1.2.2.2.1 * 6 + 2) (mAt bs ln pl), (upN Z.1.1 (Z.1.2.2.2.1 * 6 + 0) k, Z.1.2).2).1 (Z.1.2.2.2.1 * 6 + 1) (tkV bs ln (tkE bs ln pl)), (upN (upN Z.1.1 (Z.1.2.2.2.1 * 6 + 0) k, Z.1.2).1 (Z.1.2.2.2.1 * 6 + 2) (mAt bs ln pl), (upN Z.1.1 (Z.1.2.2.2.1 * 6 + 0) k, Z.1.2).2).2).2).1, (upN (upN (upN (upN Z.1.1 (Z.1.2.2.2.1 * 6 + 0) k, Z.1.2).1 (Z.1.2.2.2.1 * 6 + 2) (mAt bs ln pl), (upN Z.1.1 (Z.1.2.2.2.1 * 6 + 0) k, Z.1.2).2).1 (Z.1.2.2.2.1 * 6 + 1) (tkV bs ln (tkE bs ln pl)), (upN (upN Z.1.1 (Z.1.2.2.2.1 * 6 + 0) k, Z.1.2).1 (Z.1.2.2.2.1 * 6 + 2) (mAt bs ln pl), (upN Z.1.1 (Z.1.2.2.2.1 * 6 + 0) k, Z.1.2).2).2).1 (Z.1.2.2.2.1 * 6 + 3) (tkV bs ln (tkE bs ln (tkE bs ln pl))), (upN (upN (upN Z.1.1 (Z.1.2.2.2.1 * 6 + 0) k, Z.1.2).1 (Z.1.2.2.2.1 * 6 + 2) (mAt bs ln pl), (upN Z.1.1 (Z.1.2.2.2.1 * 6 + 0) k, Z.1.2).2).1 (Z.1.2.2.2.1 * 6 + 1) (tkV bs ln (tkE bs ln pl)), (upN (upN Z.1.1 (Z.1.2.2.2.1 * 6 + 0) k, Z.1.2).1 (Z.1.2.2.2.1 * 6 + 2) (mAt bs ln pl), (upN Z.1.1 (Z.1.2.2.2.1 * 6 + 0) k, Z.1.2).2).2).2).2.1, (upN (upN (upN (upN Z.1.1 (Z.1.2.2.2.1 * 6 + 0) k, Z.1.2).1 (Z.1.2.2.2.1 * 6 + 2) (mAt bs ln pl), (upN Z.1.1 (Z.1.2.2.2.1 * 6 + 0) k, Z.1.2).2).1 (Z.1.2.2.2.1 * 6 + 1) (tkV bs ln (tkE bs ln pl)), (upN (upN Z.1.1 (Z.1.2.2.2.1 * 6 + 0) k, Z.1.2).1 (Z.1.2.2.2.1 * 6 + 2) (mAt bs ln pl), (upN Z.1.1 (Z.1.2.2.2.1 * 6 + 0) k, Z.1.2).2).2).1 (Z.1.2.2.2.1 * 6 + 3) (tkV bs ln (tkE bs ln (tkE bs ln pl))), (upN (upN (upN Z.1.1 (Z.1.2.2.2.1 * 6 + 0) k, Z.1.2).1 (Z.1.2.2.2.1 * 6 + 2) (mAt bs ln pl), (upN Z.1.1 (Z.1.2.2.2.1 * 6 + 0) k, Z.1.2).2).1 (Z.1.2.2.2.1 * 6 + 1) (tkV bs ln (tkE bs ln pl)), (upN (upN Z.1.1 (Z.1.2.2.2.1 * 6 + 0) k, Z.1.2).1 (Z.1.2.2.2.1 * 6 + 2) (mAt bs ln pl), (upN Z.1.1 (Z.1.2.2.2.1 * 6 + 0) k, Z.1.2).2).2).2).2.2.1, (((upN (upN (upN (upN Z.1.1 (Z.1.2.2.2.1 * 6 + 0) k, Z.1.2).1 (Z.1.2.2.2.1 * 6 + 2) (mAt bs ln pl), (upN Z.1.1 (Z.1.2.2.2.1 * 6 + 0) k, Z.1.2).2).1 (Z.1.2.2.2.1 * 6 + 1) (tkV bs ln (tkE bs ln pl)), (upN (upN Z.1.1 (Z.1.2.2.2.1 * 6 + 0) k, Z.1.2).1 (Z.1.2.2.2.1 * 6 + 2) (mAt bs ln pl), (upN Z.1.1 (Z.1.2.2.2.1 * 6 + 0) k, Z.1.2).2).2).1 (Z.1.2.2.2.1 * 6 + 3) (tkV bs ln (tkE bs ln (tkE bs ln pl))), (upN (upN (upN Z.1.1 (Z.1.2.2.2.1 * 6 + 0) k, Z.1.2).1 (Z.1.2.2.2.1 * 6 + 2) (mAt bs ln pl), (upN Z.1.1 (Z.1.2.2.2.1 * 6 + 0) k, Z.1.2).2).1 (Z.1.2.2.2.1 * 6 + 1) (tkV bs ln (tkE bs ln pl)), (upN (upN Z.1.1 (Z.1.2.2.2.1 * 6 + 0) k, Z.1.2).1 (Z.1.2.2.2.1 * 6 + 2) (mAt bs ln pl), (upN Z.1.1 (Z.1.2.2.2.1 * 6 + 0) k, Z.1.2).2).2).2).2.2.2.1) + 1), (upN (upN (upN (upN Z.1.1 (Z.1.2.2.2.1 * 6 + 0) k, Z.1.2).1 (Z.1.2.2.2.1 * 6 + 2) (mAt bs ln pl), (upN Z.1.1 (Z.1.2.2.2.1 * 6 + 0) k, Z.1.2).2).1 (Z.1.2.2.2.1 * 6 + 1) (tkV bs ln (tkE bs ln pl)), (upN (upN Z.1.1 (Z.1.2.2.2.1 * 6 + 0) k, Z.1.2).1 (Z.1.2.2.2.1 * 6 + 2) (mAt bs ln pl), (upN Z.1.1 (Z.1.2.2.2.1 * 6 + 0) k, Z.1.2).2).2).1 (Z.1.2.2.2.1 * 6 + 3) (tkV bs ln (tkE bs ln (tkE bs ln pl))), (upN (upN (upN Z.1.1 (Z.1.2.2.2.1 * 6 + 0) k, Z.1.2).1 (Z.1.2.2.2.1 * 6 + 2) (mAt bs ln pl), (upN Z.1.1 (Z.1.2.2.2.1 * 6 + 0) k, Z.1.2).2).1 (Z.1.2.2.2.1 * 6 + 1) (tkV bs ln (tkE bs ln pl)), (upN (upN Z.1.1 (Z.1.2.2.2.1 * 6 + 0) k, Z.1.2).1 (Z.1.2.2.2.1 * 6 + 2) (mAt bs ln pl), (upN Z.1.1 (Z.1.2.2.2.1 * 6 + 0) k, Z.1.2).2).2).2).2.2.2.2.1, (upN (upN (upN (upN Z.1.1 (Z.1.2.2.2.1 * 6 + 0) k, Z.1.2).1 (Z.1.2.2.2.1 * 6 + 2) (mAt bs ln pl), (upN Z.1.1 (Z.1.2.2.2.1 * 6 + 0) k, Z.1.2).2).1 (Z.1.2.2.2.1 * 6 + 1) (tkV bs ln (tkE bs ln pl)), (upN (upN Z.1.1 (Z.1.2.2.2.1 * 6 + 0) k, Z.1.2).1 (Z.1.2.2.2.1 * 6 + 2) (mAt bs ln pl), (upN Z.1.1 (Z.1.2.2.2.1 * 6 + 0) k, Z.1.2).2).2).1 (Z.1.2.2.2.1 * 6 + 3) (tkV bs ln (tkE bs ln (tkE bs ln pl))), (upN (upN (upN Z.1.1 (Z.1.2.2.2.1 * 6 + 0) k, Z.1.2).1 (Z.1.2.2.2.1 * 6 + 2) (mAt bs ln pl), (upN Z.1.1 (Z.1.2.2.2.1 * 6 + 0) k, Z.1.2).2).1 (Z.1.2.2.2.1 * 6 + 1) (tkV bs ln (tkE bs ln pl)), (upN (upN Z.1.1 (Z.1.2.2.2.1 * 6 + 0) k, Z.1.2).1 (Z.1.2.2.2.1 * 6 + 2) (mAt bs ln pl), (upN Z.1.1 (Z.1.2.2.2.1 * 6 + 0) k, Z.1.2).2).2).2).2.2.2.2.2.1, (upN (upN (upN (upN Z.1.1 (Z.1.2.2.2.1 * 6 + 0) k, Z.1.2).1 (Z.1.2.2.2.1 * 6 + 2) (mAt bs ln pl), (upN Z.1.1 (Z.1.2.2.2.1 * 6 + 0) k, Z.1.2).2).1 (Z.1.2.2.2.1 * 6 + 1) (tkV bs ln (tkE bs ln pl)), (upN (upN Z.1.1 (Z.1.2.2.2.1 * 6 + 0) k, Z.1.2).1 (Z.1.2.2.2.1 * 6 + 2) (mAt bs ln pl), (upN Z.1.1 (Z.1.2.2.2.1 * 6 + 0) k, Z.1.2).2).2).1 (Z.1.2.2.2.1 * 6 + 3) (tkV bs ln (tkE bs ln (tkE bs ln pl))), (upN (upN (upN Z.1.1 (Z.1.2.2.2.1 * 6 + 0) k, Z.1.2).1 (Z.1.2.2.2.1 * 6 + 2) (mAt bs ln pl), (upN Z.1.1 (Z.1.2.2.2.1 * 6 + 0) k, Z.1.2).2).1 (Z.1.2.2.2.1 * 6 + 1) (tkV bs ln (tkE bs ln pl)), (upN (upN Z.1.1 (Z.1.2.2.2.1 * 6 + 0) k, Z.1.2).1 (Z.1.2.2.2.1 * 6 + 2) (mAt bs ln pl), (upN Z.1.1 (Z.1.2.2.2.1 * 6 + 0) k, Z.1.2).2).2).2).2.2.2.2.2.2), Z.2.1, Z.2.2.1, Z.2.2.2.1, Z.2.2.2.2), _, _, _, _, ((va_up_ne _ _ (by decide)).trans ((hshM_40 (14) (by omega)).trans hC_38)), ⟨(va_up_self _ _ _), ((va_up_ne _ _ (by decide)).trans hThM_40.2.1), ((va_up_ne _ _ (by decide)).trans hThM_40.2.2.1), ((va_up_ne _ _ (by decide)).trans hThM_40.2.2.2)⟩, ⟨((va_up_ne _ _ (by decide)).trans ((hshM_40 (12) (by omega)).trans hP_39)), ((va_up_ne _ _ (by decide)).trans ((hshM_40 (13) (by omega)).trans hP_29.2))⟩, (by omega), (by omega), (by omega), (fun q => absurd rfl q), (fun _ => ⟨rfl, rfl⟩)⟩ ((((((((sm.rf.tr (hshM_2.mono (by omega) (by omega))).tr (hs_6.mono (by omega) (by omega))).tr (hshM_16.mono (by omega) (by omega))).tr (hs_20.mono (by omega) (by omega))).tr (hshM_28.mono (by omega) (by omega))).tr (hs_32.mono (by omega) (by omega))).tr (hshM_40.mono (by omega) (by omega))).up (by omega) (by omega))
        · skip
          refine w_vret O dX2_readGiver_105 ?_
          have hn0 := of_decide_eq_false c_35
          have eF : fGiv bs ln Z sa pl = (aN bs ln 0 3 (tkE bs ln (tkE bs ln pl)), tkB bs ln (tkE bs ln (tkE bs ln pl))) := by unfold fGiv; exact orF_ok (if_neg (by omega)) (orF_ok e0_13 (orF_ok e0_25 rfl))
          rw [eF] at hQ
          exact hQ _ ⟨_, ((upN (upN (upN Z.1.1 (Z.1.2.2.2.1 * 6 + 0) k, Z.1.2).1 (Z.1.2.2.2.1 * 6 + 2) (mAt bs ln pl), (upN Z.1.1 (Z.1.2.2.2.1 * 6 + 0) k, Z.1.2).2).1 (Z.1.2.2.2.1 * 6 + 1) (tkV bs ln (tkE bs ln pl)), (upN (upN Z.1.1 (Z.1.2.2.2.1 * 6 + 0) k, Z.1.2).1 (Z.1.2.2.2.1 * 6 + 2) (mAt bs ln pl), (upN Z.1.1 (Z.1.2.2.2.1 * 6 + 0) k, Z.1.2).2).2), Z.2.1, Z.2.2.1, Z.2.2.2.1, Z.2.2.2.2), _, _, _, _, hC_30, ⟨((hs_32 (15) (by omega)).trans hThM_28.1), ((hs_32 (16) (by omega)).trans hThM_28.2.1), ((hs_32 (17) (by omega)).trans hThM_28.2.2.1), ((hs_32 (18) (by omega)).trans hThM_28.2.2.2)⟩, ⟨hP_29.1, hP_29.2⟩, (by omega), (by omega), (by omega), hf_31, (fun q => absurd q hn0)⟩ ((((((sm.rf.tr (hshM_2.mono (by omega) (by omega))).tr (hs_6.mono (by omega) (by omega))).tr (hshM_16.mono (by omega) (by omega))).tr (hs_20.mono (by omega) (by omega))).tr (hshM_28.mono (by omega) (by omega))).tr (hs_32.mono (by omega) (by omega)))
      · skip
        refine w_vret O dX2_readGiver_77 ?_
        have hn0 := of_decide_eq_false c_23
        have eF : fGiv bs ln Z sa pl = (aN bs ln 0 9 (tkE bs ln pl), tkB bs ln (tkE bs ln pl)) := by unfold fGiv; exact orF_ok (if_neg (by omega)) (orF_ok e0_13 (orF_no hn0))
        rw [eF] at hQ
        exact hQ _ ⟨_, ((upN (upN Z.1.1 (Z.1.2.2.2.1 * 6 + 0) k, Z.1.2).1 (Z.1.2.2.2.1 * 6 + 2) (mAt bs ln pl), (upN Z.1.1 (Z.1.2.2.2.1 * 6 + 0) k, Z.1.2).2), Z.2.1, Z.2.2.1, Z.2.2.2.1, Z.2.2.2.2), _, _, _, _, hC_18, ⟨((hs_20 (15) (by omega)).trans hThM_16.1), ((hs_20 (16) (by omega)).trans hThM_16.2.1), ((hs_20 (17) (by omega)).trans hThM_16.2.2.1), ((hs_20 (18) (by omega)).trans hThM_16.2.2.2)⟩, ⟨hP_17.1, hP_17.2⟩, (by omega), (by omega), (by omega), hf_19, (fun q => absurd q hn0)⟩ ((((sm.rf.tr (hshM_2.mono (by omega) (by omega))).tr (hs_6.mono (by omega) (by omega))).tr (hshM_16.mono (by omega) (by omega))).tr (hs_20.mono (by omega) (by omega)))
    · skip
      refine w_vret O dX2_readGiver_49 ?_
      have hn0 := of_decide_eq_false c_11
      have eF : fGiv bs ln Z sa pl = (aM bs ln 3 pl, tkB bs ln pl) := by unfold fGiv; exact orF_ok (if_neg (by omega)) (orF_no hn0)
      rw [eF] at hQ
      exact hQ _ ⟨_, ((upN Z.1.1 (Z.1.2.2.2.1 * 6 + 0) k, Z.1.2), Z.2.1, Z.2.2.1, Z.2.2.2.1, Z.2.2.2.2), _, _, _, _, hC_4, ⟨((hs_6 (15) (by omega)).trans hThM_2.1), ((hs_6 (16) (by omega)).trans hThM_2.2.1), ((hs_6 (17) (by omega)).trans hThM_2.2.2.1), ((hs_6 (18) (by omega)).trans hThM_2.2.2.2)⟩, ⟨hP_3.1, hP_3.2⟩, (by omega), (by omega), (by omega), hf_5, (fun q => absurd q hn0)⟩ ((sm.rf.tr (hshM_2.mono (by omega) (by omega))).tr (hs_6.mono (by omega) (by omega)))
  · skip
    refine w_aload_n (n := 12) O dX2_readGiver_11 rfl rfl rfl ?_
    refine w_iconst (n := 13) O dX2_readGiver_12 (v := (nI 5)) (by decide) rfl ?_
    refine w_aload_n (n := 14) O dX2_readGiver_13 rfl rfl rfl ?_
    refine w_getf (n := 17) O 4 dX2_readGiver_14 (by omega) hP.1 rfl (by decide) uX4 uf_X2_102 rfl rfl ?_
    refine w_cV (n := 20) (ro := some (.int (bI (false)))) (R := fun mM' => isC G mM' 5 sa Z.2.1 Z.2.2.1 Z.2.2.2.1 Z.2.2.2.2 ∧ sm mM mM' 14 14) (st := []) (st1 := [.int (bI (false))]) (As := [.int (nI 5), .int (nI (sa))]) (b := 14) O dX2_readGiver_17 ul_X2_60 um_X2_refuse (f_X2_refuse hW hC (fun M' h1 h2 => ⟨rfl, h1, h2⟩)) rfl (by omega) hC rfl rfl rfl rfl (by decide) (Nat.le_of_ble_eq_true rfl) rfl (fun mhM_43 hM_43 => ?_)
    obtain ⟨hC_41, hs_42⟩ := hM_43
    refine w_pop (n := 21) O dX2_readGiver_20 rfl rfl ?_
    refine w_vret O dX2_readGiver_21 ?_
    have eF : fGiv bs ln Z sa pl = (5, sa) := by unfold fGiv; rw [if_pos (show 4 ≤ Z.1.2.2.2.1 by omega)]; exact orF_no (by decide)
    rw [eF] at hQ
    exact hQ _ ⟨_, (Z.1, Z.2.1, Z.2.2.1, Z.2.2.2.1, Z.2.2.2.2), _, _, _, _, hC_41, ⟨((hs_42 (15) (by omega)).trans hV.1), ((hs_42 (16) (by omega)).trans hV.2.1), ((hs_42 (17) (by omega)).trans hV.2.2.1), ((hs_42 (18) (by omega)).trans hV.2.2.2)⟩, ⟨((hs_42 (12) (by omega)).trans hP.1), ((hs_42 (13) (by omega)).trans hP.2)⟩, (by omega), (by omega), (by omega), (fun _ => rfl), (fun q => absurd q (Nat.succ_ne_zero _))⟩ (sm.rf.tr (hs_42.mono (by omega) (by omega)))
