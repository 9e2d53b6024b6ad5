set_option maxRecDepth 100000 in
set_option maxHeartbeats 4000000 in
theorem f_X2_readLine {G : gb_G} (hW : gW G) {Q : Option Value → gb_M → Prop} {mM : gb_M} {bs : Nat → Nat} {ln pl so sa nu : Nat} (hP : isP G mM bs ln pl so sa nu) (hln : ln ≤ 160) (hbs : ∀ k, k < ln → bs k ≤ 127) (hpl : pl ≤ ln) (hsa : sa ≤ 160) (hso : so ≤ 4) (hsp : sa ≤ pl) {Z : Sc} {fp : Nat} (hC : isC G mM 0 fp Z.2.1 Z.2.2.1 Z.2.2.2.1 Z.2.2.2.2) (hV : isT G mM 15 Z.1) (hZ : Z.2.1 < 16 ∧ Z.2.2.1 < 16 ∧ Z.2.2.2.1 < 16) (hg4 : Z.1.2.2.2.1 ≤ 4)  (hQ : ∀ M', LnP G M' bs ln (fLin bs ln Z so sa pl) (eLin bs ln so sa pl) (uLin bs ln Z so sa pl) → sm mM M' 12 18 → Q none M') : Fn G 8 yX2_readLine cX2_readLine 3 none [.ref (gb_ad G 14), .ref (gb_ad G 12)] mM Q := by
  have hN := hW.2.2.1
  refine Fn.of hW.1 [(0, .ref (gb_ad G 14)), (1, .ref (gb_ad G 12))] (by decide) (Nat.le_of_ble_eq_true rfl) rfl ?_
  intro X O
  refine w_aload_n (n := 1) O dX2_readLine_0 rfl rfl rfl ?_
  refine w_cS (n := 4) (ro := some (.int (wdI (tkK bs so sa pl)))) (R := fun mM' => mM = mM') (st := []) (st1 := [.int (wdI (tkK bs so sa pl))]) (As := [.ref (gb_ad G 12)]) O dX2_readLine_1 ul_X2_70 um_X2_kindOf (f_X2_kindOf hW ⟨hP.1, hP.2⟩ hln hbs (by omega) (by omega) (by omega) ⟨rfl, rfl⟩) rfl rfl rfl (by decide) (Nat.le_of_ble_eq_true rfl) rfl (fun mhM_1 hM_1 => ?_)
  subst hM_1
  refine w_istore_n (n := 5) (lv' := [(2, .int (wdI (tkK bs so sa pl))), (0, .ref (gb_ad G 14)), (1, .ref (gb_ad G 12))]) O dX2_readLine_4 rfl (by decide) rfl rfl ?_
  have hk4 := tkK_le bs so sa pl
  have J : ∀ (m1 : gb_M) (F : Nat × Nat) (e : Nat) (U : Sc), F.1 ≤ 6 → fWd bs ln Z (wdN bs so sa pl) sa pl = F → eWd bs ln (wdN bs so sa pl) pl = e → uLin bs ln Z so sa pl = U → LnP G m1 bs ln F e U → sm mM m1 12 18 → Wm G X 3 Q 96 [(0, .ref (gb_ad G (14))), (1, .ref (gb_ad G (12)))] [] m1 := by
    intro m1 F e U hF6 eW eE eU hL hs1
    obtain ⟨fp1, Y, pl1, so1, sa1, nu1, hC1, hV1, hP1, hb1, hb2, hb3, hf1, h01⟩ := hL
    refine w_aload_n (n := 97) O dX2_readLine_96 rfl rfl rfl ?_
    refine w_getf (n := 100) O 1 dX2_readLine_97 (by omega) hC1 rfl (by decide) uX2 uf_X2_18 rfl rfl ?_
    refine w_if_neN (n := 103) (tgt := 129) O dX2_readLine_100 (by omega) (by decide) rfl (fun c_2 => ?_) (fun c_2 => ?_)
    · skip
      refine w_vret O dX2_readLine_129 ?_
      have hn0 := c_2
      have eF : fLin bs ln Z so sa pl = F := by unfold fLin; rw [eW]; exact orF_n hn0
      rw [eF] at hQ
      exact hQ _ ⟨_, (Y.1, Y.2.1, Y.2.2.1, Y.2.2.2.1, Y.2.2.2.2), _, _, _, _, hC1, ⟨hV1.1, hV1.2.1, hV1.2.2.1, hV1.2.2.2⟩, ⟨hP1.1, hP1.2⟩, (by omega), (by omega), (by omega), hf1, (fun q => absurd q hn0)⟩ (sm.rf.tr (hs1.mono (by omega) (by omega)))
    · skip
      obtain ⟨hpe, hYe⟩ := h01 c_2
      have hC_3 : isC G m1 0 fp1 Y.2.1 Y.2.2.1 Y.2.2.2.1 Y.2.2.2.2 := Eq.mp (congrArg (fun x => isC G m1 x fp1 Y.2.1 Y.2.2.1 Y.2.2.2.1 Y.2.2.2.2) c_2) hC1
      refine w_aload_n (n := 104) O dX2_readLine_103 rfl rfl rfl ?_
      refine w_aload_n (n := 105) O dX2_readLine_104 rfl rfl rfl ?_
      refine w_cV (n := 108) (ro := some (.int (bI (decide (¬ tkS bs ln pl1 = 0))))) (R := fun mM' => ∃ fp', isP G mM' bs ln (tkE bs ln pl1) (tkS bs ln pl1) (tkB bs ln pl1) (tkU bs ln pl1 nu1) ∧ isC G mM' (aT bs ln pl1) fp' Y.2.1 Y.2.2.1 Y.2.2.2.1 Y.2.2.2.2 ∧ (aT bs ln pl1 ≠ 0 → fp' = tkB bs ln pl1) ∧ sm m1 mM' 12 14) (st := []) (st1 := [.int (bI (decide (¬ tkS bs ln pl1 = 0)))]) (As := [.ref (gb_ad G 12)]) (b := 14) O dX2_readLine_105 ul_X2_42 um_X2_readOn (f_X2_readOn hW ⟨hP1.1, hP1.2⟩ hln hbs (by omega) (by omega) (by omega) hC_3 (fun M' a h1 h2 h3 h4 => ⟨rfl, a, h1, h2, h3, h4⟩)) rfl (by omega) hC_3 rfl rfl rfl rfl (by decide) (Nat.le_of_ble_eq_true rfl) rfl (fun mhM_9 hM_9 => ?_)
      obtain ⟨fp_8, hP_4, hC_5, hf_6, hs_7⟩ := hM_9
      have bhP_4 := tkE_le (bs := bs) (ln := ln) (p := pl1) (by omega)
      have chP_4 := tkB_le (bs := bs) (ln := ln) (p := pl1) (by omega)
      have dhP_4 := tkE_ge bs ln pl1
      have ehP_4 := tkS_le bs ln pl1
      refine w_if_eqB (n := 111) (tgt := 129) O dX2_readLine_108 (by decide) rfl (fun c_10 => ?_) (fun c_10 => ?_)
      · skip
        refine w_vret O dX2_readLine_129 ?_
        have h0 := dn_f c_10
        have eF : fLin bs ln Z so sa pl = (aT bs ln pl1, tkB bs ln pl1) := by unfold fLin; rw [eW, orF_0 c_2, eE, ← hpe]; unfold fSem; unfold aT; rw [if_pos h0, if_pos h0]
        have hn0 : ¬ aT bs ln pl1 = 0 := by unfold aT; rw [if_pos h0]; decide
        rw [eF] at hQ
        exact hQ _ ⟨_, (Y.1, Y.2.1, Y.2.2.1, Y.2.2.2.1, Y.2.2.2.2), _, _, _, _, hC_5, ⟨((hs_7 (15) (by omega)).trans hV1.1), ((hs_7 (16) (by omega)).trans hV1.2.1), ((hs_7 (17) (by omega)).trans hV1.2.2.1), ((hs_7 (18) (by omega)).trans hV1.2.2.2)⟩, ⟨hP_4.1, hP_4.2⟩, (by omega), (by omega), (by omega), hf_6, (fun q => absurd q hn0)⟩ ((sm.rf.tr (hs1.mono (by omega) (by omega))).tr (hs_7.mono (by omega) (by omega)))
      · skip
        refine w_aload_n (n := 112) O dX2_readLine_111 rfl rfl rfl ?_
        refine w_getf (n := 115) O 3 dX2_readLine_112 (by omega) hP_4.1 rfl (by decide) uX4 uf_X2_46 rfl rfl ?_
        refine w_iconst (n := 116) O dX2_readLine_115 (v := (nI 4)) (by decide) rfl ?_
        refine w_icmp_eqN (n := 119) (tgt := 129) O dX2_readLine_116 (by omega) (by omega) (by decide) rfl (fun c_11 => ?_) (fun c_11 => ?_)
        · skip
          refine w_vret O dX2_readLine_129 ?_
          have ht := dn_t c_10
          have ea : aT bs ln pl1 = 0 := if_neg ht
          have hC_12 : isC G mhM_9 0 fp_8 Y.2.1 Y.2.2.1 Y.2.2.2.1 Y.2.2.2.2 := Eq.mp (congrArg (fun x => isC G mhM_9 x fp_8 Y.2.1 Y.2.2.1 Y.2.2.2.1 Y.2.2.2.2) ea) hC_5
          have eF : fLin bs ln Z so sa pl = (0, tkB bs ln pl1) := by unfold fLin; rw [eW, orF_0 c_2, eE, ← hpe]; unfold fSem; rw [if_neg ht, if_pos c_11]
          rw [eF] at hQ
          exact hQ _ ⟨_, (Y.1, Y.2.1, Y.2.2.1, Y.2.2.2.1, Y.2.2.2.2), _, _, _, _, hC_12, ⟨((hs_7 (15) (by omega)).trans hV1.1), ((hs_7 (16) (by omega)).trans hV1.2.1), ((hs_7 (17) (by omega)).trans hV1.2.2.1), ((hs_7 (18) (by omega)).trans hV1.2.2.2)⟩, ⟨hP_4.1, hP_4.2⟩, (by omega), (by omega), (by omega), (fun q => absurd rfl q), (fun _ => ⟨by unfold eLin; rw [eE, ← hpe], hYe.trans eU.symm⟩)⟩ ((sm.rf.tr (hs1.mono (by omega) (by omega))).tr (hs_7.mono (by omega) (by omega)))
        · skip
          refine w_aload_n (n := 120) O dX2_readLine_119 rfl rfl rfl ?_
          refine w_iconst (n := 121) O dX2_readLine_120 (v := (nI 2)) (by decide) rfl ?_
          refine w_aload_n (n := 122) O dX2_readLine_121 rfl rfl rfl ?_
          refine w_getf (n := 125) O 4 dX2_readLine_122 (by omega) hP_4.1 rfl (by decide) uX4 uf_X2_102 rfl rfl ?_
          refine w_cV (n := 128) (ro := some (.int (bI (false)))) (R := fun mM' => isC G mM' 2 (tkB bs ln pl1) Y.2.1 Y.2.2.1 Y.2.2.2.1 Y.2.2.2.2 ∧ sm mhM_9 mM' 14 14) (st := []) (st1 := [.int (bI (false))]) (As := [.int (nI 2), .int (nI (tkB bs ln pl1))]) (b := 14) O dX2_readLine_125 ul_X2_60 um_X2_refuse (f_X2_refuse hW hC_5 (fun M' h1 h2 => ⟨rfl, h1, h2⟩)) rfl (by omega) hC_5 rfl rfl rfl rfl (by decide) (Nat.le_of_ble_eq_true rfl) rfl (fun mhM_15 hM_15 => ?_)
          obtain ⟨hC_13, hs_14⟩ := hM_15
          refine w_pop (n := 129) O dX2_readLine_128 rfl rfl ?_
          refine w_vret O dX2_readLine_129 ?_
          have ht := dn_t c_10
          have eF : fLin bs ln Z so sa pl = (2, tkB bs ln pl1) := by unfold fLin; rw [eW, orF_0 c_2, eE, ← hpe]; unfold fSem; rw [if_neg ht, if_neg c_11]
          rw [eF] at hQ
          exact hQ _ ⟨_, (Y.1, Y.2.1, Y.2.2.1, Y.2.2.2.1, Y.2.2.2.2), _, _, _, _, hC_13, ⟨((hs_14 (15) (by omega)).trans ((hs_7 (15) (by omega)).trans hV1.1)), ((hs_14 (16) (by omega)).trans ((hs_7 (16) (by omega)).trans hV1.2.1)), ((hs_14 (17) (by omega)).trans ((hs_7 (17) (by omega)).trans hV1.2.2.1)), ((hs_14 (18) (by omega)).trans ((hs_7 (18) (by omega)).trans hV1.2.2.2))⟩, ⟨((hs_14 (12) (by omega)).trans hP_4.1), ((hs_14 (13) (by omega)).trans hP_4.2)⟩, (by omega), (by omega), (by omega), (fun _ => rfl), (fun q => absurd q (Nat.succ_ne_zero _))⟩ (((sm.rf.tr (hs1.mono (by omega) (by omega))).tr (hs_7.mono (by omega) (by omega))).tr (hs_14.mono (by omega) (by omega)))
  refine w_iload_n (n := 6) O dX2_readLine_5 rfl rfl rfl ?_
  refine w_if_lt (n := 9) (tgt := 18) O dX2_readLine_6 (by decide) rfl (fun c_16 => ?_) (fun c_16 => ?_)
  · skip
    have hkk := wdI_lt hk4 c_16
    refine w_aload_n (n := 19) O dX2_readLine_18 rfl rfl rfl ?_
    refine w_ldcT (n := 21) O dX2_readLine_19 (gz_TX0 hW O) rfl ?_
    refine w_cV (n := 24) (ro := some (.int (bI (tkIs bs so sa pl 0)))) (R := fun mM' => mM = mM') (st := []) (st1 := [.int (bI (tkIs bs so sa pl 0))]) (As := [.ref (gb_ad G (63 + 0))]) (b := 12) O dX2_readLine_21 ul_X2_80 um_X4_isName (f_X4_isName (i := 0) hW ⟨hP.1, hP.2⟩ hln hbs (by omega) (by omega) (by omega) (by omega) ⟨rfl, rfl⟩) rfl (by omega) hP.1 rfl rfl rfl rfl (by decide) (Nat.le_of_ble_eq_true rfl) rfl (fun mhM_17 hM_17 => ?_)
    subst hM_17
    refine w_if_eqB (n := 27) (tgt := 35) O dX2_readLine_24 (by decide) rfl (fun c_18 => ?_) (fun c_18 => ?_)
    · skip
      refine w_aload_n (n := 36) O dX2_readLine_35 rfl rfl rfl ?_
      refine w_ldcT (n := 38) O dX2_readLine_36 (gz_TX1 hW O) rfl ?_
      refine w_cV (n := 41) (ro := some (.int (bI (tkIs bs so sa pl 1)))) (R := fun mM' => mM = mM') (st := []) (st1 := [.int (bI (tkIs bs so sa pl 1))]) (As := [.ref (gb_ad G (63 + 1))]) (b := 12) O dX2_readLine_38 ul_X2_80 um_X4_isName (f_X4_isName (i := 1) hW ⟨hP.1, hP.2⟩ hln hbs (by omega) (by omega) (by omega) (by omega) ⟨rfl, rfl⟩) rfl (by omega) hP.1 rfl rfl rfl rfl (by decide) (Nat.le_of_ble_eq_true rfl) rfl (fun mhM_19 hM_19 => ?_)
      subst hM_19
      refine w_if_eqB (n := 44) (tgt := 52) O dX2_readLine_41 (by decide) rfl (fun c_20 => ?_) (fun c_20 => ?_)
      · skip
        refine w_aload_n (n := 53) O dX2_readLine_52 rfl rfl rfl ?_
        refine w_ldcT (n := 55) O dX2_readLine_53 (gz_TX2 hW O) rfl ?_
        refine w_cV (n := 58) (ro := some (.int (bI (tkIs bs so sa pl 2)))) (R := fun mM' => mM = mM') (st := []) (st1 := [.int (bI (tkIs bs so sa pl 2))]) (As := [.ref (gb_ad G (63 + 2))]) (b := 12) O dX2_readLine_55 ul_X2_80 um_X4_isName (f_X4_isName (i := 2) hW ⟨hP.1, hP.2⟩ hln hbs (by omega) (by omega) (by omega) (by omega) ⟨rfl, rfl⟩) rfl (by omega) hP.1 rfl rfl rfl rfl (by decide) (Nat.le_of_ble_eq_true rfl) rfl (fun mhM_21 hM_21 => ?_)
        subst hM_21
        refine w_if_eqB (n := 61) (tgt := 69) O dX2_readLine_58 (by decide) rfl (fun c_22 => ?_) (fun c_22 => ?_)
        · skip
          refine w_aload_n (n := 70) O dX2_readLine_69 rfl rfl rfl ?_
          refine w_ldcT (n := 72) O dX2_readLine_70 (gz_TX3 hW O) rfl ?_
          refine w_cV (n := 75) (ro := some (.int (bI (tkIs bs so sa pl 3)))) (R := fun mM' => mM = mM') (st := []) (st1 := [.int (bI (tkIs bs so sa pl 3))]) (As := [.ref (gb_ad G (63 + 3))]) (b := 12) O dX2_readLine_72 ul_X2_80 um_X4_isName (f_X4_isName (i := 3) hW ⟨hP.1, hP.2⟩ hln hbs (by omega) (by omega) (by omega) (by omega) ⟨rfl, rfl⟩) rfl (by omega) hP.1 rfl rfl rfl rfl (by decide) (Nat.le_of_ble_eq_true rfl) rfl (fun mhM_23 hM_23 => ?_)
          subst hM_23
          refine w_if_eqB (n := 78) (tgt := 86) O dX2_readLine_75 (by decide) rfl (fun c_24 => ?_) (fun c_24 => ?_)
          · skip
            refine w_aload_n (n := 87) O dX2_readLine_86 rfl rfl rfl ?_
            refine w_iconst (n := 88) O dX2_readLine_87 (v := (nI 2)) (by decide) rfl ?_
            refine w_aload_n (n := 89) O dX2_readLine_88 rfl rfl rfl ?_
            refine w_getf (n := 92) O 4 dX2_readLine_89 (by omega) hP.1 rfl (by decide) uX4 uf_X2_102 rfl rfl ?_
            refine w_cV (n := 95) (ro := some (.int (bI (false)))) (R := fun mM' => isC G mM' 2 sa Z.2.1 Z.2.2.1 Z.2.2.2.1 Z.2.2.2.2 ∧ sm mM mM' 14 14) (st := []) (st1 := [.int (bI (false))]) (As := [.int (nI 2), .int (nI (sa))]) (b := 14) O dX2_readLine_92 ul_X2_60 um_X2_refuse (f_X2_refuse hW hC (fun M' h1 h2 => ⟨rfl, h1, h2⟩)) rfl (by omega) hC rfl rfl rfl rfl (by decide) (Nat.le_of_ble_eq_true rfl) rfl (fun mhM_27 hM_27 => ?_)
            obtain ⟨hC_25, hs_26⟩ := hM_27
            refine w_pop (n := 96) O dX2_readLine_95 rfl rfl ?_
            have ewd : wdN bs so sa pl = 5 := by unfold wdN; rw [if_neg hkk, if_neg (by rw [c_18]; decide), if_neg (by rw [c_20]; decide), if_neg (by rw [c_22]; decide), if_neg (by rw [c_24]; decide)]
            refine w_lv (lv2 := [(0, .ref (gb_ad G (14))), (1, .ref (gb_ad G (12)))]) [1, 2] rfl ?_
            exact J _ ((2, sa)) (tkE bs ln (tkE bs ln pl)) (Z) ((show 2 ≤ 6 by decide)) (by rw [ewd]; rfl) (by rw [ewd]; rfl) (by unfold uLin; rw [ewd]; rfl) ⟨_, Z, _, _, _, _, hC_25, ⟨((hs_26 (15) (by omega)).trans hV.1), ((hs_26 (16) (by omega)).trans hV.2.1), ((hs_26 (17) (by omega)).trans hV.2.2.1), ((hs_26 (18) (by omega)).trans hV.2.2.2)⟩, ⟨((hs_26 (12) (by omega)).trans hP.1), ((hs_26 (13) (by omega)).trans hP.2)⟩, (by omega), (by omega), (by omega), (fun _ => rfl), (fun q => absurd q (Nat.succ_ne_zero _))⟩ (sm.rf.tr (hs_26.mono (by omega) (by omega)))
          · skip
            refine w_aload_n (n := 79) O dX2_readLine_78 rfl rfl rfl ?_
            refine w_aload_n (n := 80) O dX2_readLine_79 rfl rfl rfl ?_
            refine w_cV (n := 83) (ro := none) (R := fun mM' => LnP G mM' bs ln (fAsk bs ln Z sa pl) (tkE bs ln (tkE bs ln pl)) (uAsk bs ln Z pl) ∧ sm mM mM' 12 18) (st := []) (st1 := []) (As := [.ref (gb_ad G 12)]) (b := 14) O dX2_readLine_80 ul_X2_99 um_X2_readAsked (f_X2_readAsked hW ⟨hP.1, hP.2⟩ hln hbs (by omega) (by omega) (by omega) hC ⟨hV.1, hV.2.1, hV.2.2.1, hV.2.2.2⟩ hZ (fun M' h1 h2 => ⟨rfl, h1, h2⟩)) rfl (by omega) hC rfl rfl rfl rfl (by omega) (Nat.le_of_ble_eq_true rfl) rfl (fun mhM_28 hM_28 => ?_)
            refine w_goto (tgt := 96) O dX2_readLine_83 (by decide) ?_
            have ewd : wdN bs so sa pl = 4 := by unfold wdN; rw [if_neg hkk, if_neg (by rw [c_18]; decide), if_neg (by rw [c_20]; decide), if_neg (by rw [c_22]; decide), if_pos c_24]
            refine w_lv (lv2 := [(0, .ref (gb_ad G (14))), (1, .ref (gb_ad G (12)))]) [1, 2] rfl ?_
            exact J _ (fAsk bs ln Z sa pl) (tkE bs ln (tkE bs ln pl)) (uAsk bs ln Z pl) (fAsk_le bs ln Z sa pl) (by rw [ewd]; rfl) (by rw [ewd]; rfl) (by unfold uLin; rw [ewd]; rfl) hM_28.1 hM_28.2
        · skip
          refine w_aload_n (n := 62) O dX2_readLine_61 rfl rfl rfl ?_
          refine w_aload_n (n := 63) O dX2_readLine_62 rfl rfl rfl ?_
          refine w_cV (n := 66) (ro := none) (R := fun mM' => LnP G mM' bs ln (fAdd bs ln Z pl) (tkE bs ln (tkE bs ln pl)) (uAdd bs ln Z pl) ∧ sm mM mM' 12 18) (st := []) (st1 := []) (As := [.ref (gb_ad G 12)]) (b := 14) O dX2_readLine_63 ul_X2_94 um_X2_readAdded (f_X2_readAdded hW ⟨hP.1, hP.2⟩ hln hbs (by omega) (by omega) (by omega) hC ⟨hV.1, hV.2.1, hV.2.2.1, hV.2.2.2⟩ hZ (fun M' h1 h2 => ⟨rfl, h1, h2⟩)) rfl (by omega) hC rfl rfl rfl rfl (by omega) (Nat.le_of_ble_eq_true rfl) rfl (fun mhM_29 hM_29 => ?_)
          refine w_goto (tgt := 96) O dX2_readLine_66 (by decide) ?_
          have ewd : wdN bs so sa pl = 3 := by unfold wdN; rw [if_neg hkk, if_neg (by rw [c_18]; decide), if_neg (by rw [c_20]; decide), if_pos c_22]
          refine w_lv (lv2 := [(0, .ref (gb_ad G (14))), (1, .ref (gb_ad G (12)))]) [1, 2] rfl ?_
          exact J _ (fAdd bs ln Z pl) (tkE bs ln (tkE bs ln pl)) (uAdd bs ln Z pl) (fAdd_le bs ln Z pl) (by rw [ewd]; rfl) (by rw [ewd]; rfl) (by unfold uLin; rw [ewd]; rfl) hM_29.1 hM_29.2
      · skip
        refine w_aload_n (n := 45) O dX2_readLine_44 rfl rfl rfl ?_
        refine w_aload_n (n := 46) O dX2_readLine_45 rfl rfl rfl ?_
        refine w_cV (n := 49) (ro := none) (R := fun mM' => LnP G mM' bs ln (fHol bs ln Z pl) (tkE bs ln (tkE bs ln pl)) (uHol bs ln Z pl) ∧ sm mM mM' 12 18) (st := []) (st1 := []) (As := [.ref (gb_ad G 12)]) (b := 14) O dX2_readLine_46 ul_X2_89 um_X2_readHold (f_X2_readHold hW ⟨hP.1, hP.2⟩ hln hbs (by omega) (by omega) (by omega) hC ⟨hV.1, hV.2.1, hV.2.2.1, hV.2.2.2⟩ hZ (fun M' h1 h2 => ⟨rfl, h1, h2⟩)) rfl (by omega) hC rfl rfl rfl rfl (by omega) (Nat.le_of_ble_eq_true rfl) rfl (fun mhM_30 hM_30 => ?_)
        refine w_goto (tgt := 96) O dX2_readLine_49 (by decide) ?_
        have ewd : wdN bs so sa pl = 2 := by unfold wdN; rw [if_neg hkk, if_neg (by rw [c_18]; decide), if_pos c_20]
        refine w_lv (lv2 := [(0, .ref (gb_ad G (14))), (1, .ref (gb_ad G (12)))]) [1, 2] rfl ?_
        exact J _ (fHol bs ln Z pl) (tkE bs ln (tkE bs ln pl)) (uHol bs ln Z pl) (fHol_le bs ln Z pl) (by rw [ewd]; rfl) (by rw [ewd]; rfl) (by unfold uLin; rw [ewd]; rfl) hM_30.1 hM_30.2
    · skip
      refine w_aload_n (n := 28) O dX2_readLine_27 rfl rfl rfl ?_
      refine w_aload_n (n := 29) O dX2_readLine_28 rfl rfl rfl ?_
      refine w_cV (n := 32) (ro := none) (R := fun mM' => LnP G mM' bs ln (fSor bs ln Z pl) (tkE bs ln pl) (uSor bs ln Z pl) ∧ sm mM mM' 12 18) (st := []) (st1 := []) (As := [.ref (gb_ad G 12)]) (b := 14) O dX2_readLine_29 ul_X2_84 um_X2_readSorry (f_X2_readSorry hW ⟨hP.1, hP.2⟩ hln hbs (by omega) (by omega) (by omega) hC ⟨hV.1, hV.2.1, hV.2.2.1, hV.2.2.2⟩ hZ (fun M' h1 h2 => ⟨rfl, h1, h2⟩)) rfl (by omega) hC rfl rfl rfl rfl (by omega) (Nat.le_of_ble_eq_true rfl) rfl (fun mhM_31 hM_31 => ?_)
      refine w_goto (tgt := 96) O dX2_readLine_32 (by decide) ?_
      have ewd : wdN bs so sa pl = 1 := by unfold wdN; rw [if_neg hkk, if_pos c_18]
      refine w_lv (lv2 := [(0, .ref (gb_ad G (14))), (1, .ref (gb_ad G (12)))]) [1, 2] rfl ?_
      exact J _ (fSor bs ln Z pl) (tkE bs ln pl) (uSor bs ln Z pl) (fSor_le bs ln Z pl) (by rw [ewd]; rfl) (by rw [ewd]; rfl) (by unfold uLin; rw [ewd]; rfl) hM_31.1 hM_31.2
  · skip
    have hkk := wdI_ge hk4 c_16
    refine w_aload_n (n := 10) O dX2_readLine_9 rfl rfl rfl ?_
    refine w_aload_n (n := 11) O dX2_readLine_10 rfl rfl rfl ?_
    refine w_iload_n (n := 12) O dX2_readLine_11 rfl rfl rfl ?_
    refine w_top (nI (tkK bs so sa pl)) (show wdI (tkK bs so sa pl) = nI (tkK bs so sa pl) from if_neg (by omega)) ?_
    refine w_cV (n := 15) (ro := none) (R := fun mM' => LnP G mM' bs ln (fGiv bs ln Z sa pl) (tkE bs ln (tkE bs ln (tkE bs ln pl))) (uGiv bs ln Z (tkK bs so sa pl) pl) ∧ sm mM mM' 12 18) (st := []) (st1 := []) (As := [.ref (gb_ad G 12), .int (nI (tkK bs so sa pl))]) (b := 14) O dX2_readLine_12 ul_X2_74 um_X2_readGiver (f_X2_readGiver hW ⟨hP.1, hP.2⟩ hln hbs (by omega) (by omega) (by omega) hC ⟨hV.1, hV.2.1, hV.2.2.1, hV.2.2.2⟩ hZ (by omega) (by omega) (fun M' h1 h2 => ⟨rfl, h1, h2⟩)) rfl (by omega) hC rfl rfl rfl rfl (by omega) (Nat.le_of_ble_eq_true rfl) rfl (fun mhM_32 hM_32 => ?_)
    refine w_goto (tgt := 96) O dX2_readLine_15 (by decide) ?_
    have ewd : wdN bs so sa pl = 0 := by unfold wdN; rw [if_pos hkk]
    refine w_lv (lv2 := [(0, .ref (gb_ad G (14))), (1, .ref (gb_ad G (12)))]) [1, 2] rfl ?_
    exact J _ (fGiv bs ln Z sa pl) (tkE bs ln (tkE bs ln (tkE bs ln pl))) (uGiv bs ln Z (tkK bs so sa pl) pl) (fGiv_le bs ln Z sa pl) (by rw [ewd]; rfl) (by rw [ewd]; rfl) (by unfold uLin; rw [ewd]; rfl) hM_32.1 hM_32.2
