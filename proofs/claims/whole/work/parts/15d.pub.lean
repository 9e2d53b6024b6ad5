set_option maxRecDepth 100000 in
set_option maxHeartbeats 4000000 in
theorem f_X6_mine {G : gb_G} (hW : gW G) {Q : Option Value → gb_M → Prop} {mM : gb_M} {T : Tw} {im : Nat → Tw} {kp : Nat → Bool} {bs : Nat → Nat} {ln fa : Nat} {st sf : Nat → Nat} {sn : Nat} {sh : Sh} {sc : Nat → Nat → Int32} {tn : Nat} (hC : isCW G mM T im kp bs ln fa st sf sn sh sc tn) {g : Int32}  (hQ : ∀ M', isCW G M' T im kp bs ln fa st sf sn sh sc tn → sm mM M' 0 48 → Q (some (.int (a_mine T g))) M') : Fn G 5 yX6_mine cX6_mine 3 (some .int) [.ref (gb_ad G 0), .int (g)] mM Q := by
  obtain ⟨hB, hT, hok, hU, hMx, hP, hS, hG, hI, hK, hH⟩ := hC
  have ok := hok.1
  have hn4 := ok.1
  have hst9 := hok.2.1
  have hln := hok.2.2.2.1
  have hsn6 := hok.2.2.2.2.2.2.1
  obtain ⟨pa, am, w, hM, hp⟩ := hMx
  have hN := hW.2.2.1
  refine Fn.of hW.1 [(0, .ref (gb_ad G 0)), (1, .int (g))] (by decide) (Nat.le_of_ble_eq_true rfl) rfl ?_
  intro X O
  refine w_aload_n (n := 1) O dX6_mine_0 rfl rfl rfl ?_
  refine w_iload_n (n := 2) O dX6_mine_1 rfl rfl rfl ?_
  refine w_cV (n := 5) (ro := some (.int (bI (isGv (g) T.2.2.2.1)))) (R := fun mM' => mM = mM') (st := []) (st1 := [.int (bI (isGv (g) T.2.2.2.1))]) (As := [.int (g)]) (b := 0) O dX6_mine_2 ul_X6_110 um_X6_isGiver (f_X6_isGiver (T := T) hW hB ⟨hT.1, hT.2.1, hT.2.2.1, hT.2.2.2⟩ ok ⟨rfl, rfl⟩) rfl (by omega) hB rfl rfl rfl rfl (by decide) (Nat.le_of_ble_eq_true rfl) rfl (fun mhM_1 hM_1 => ?_)
  subst hM_1
  refine w_if_neB (n := 8) (tgt := 10) O dX6_mine_5 (by decide) rfl (fun c_2 => ?_) (fun c_2 => ?_)
  · skip
    have hr_j := c_2
    obtain ⟨j, ja, rfl⟩ := isGv_t (by omega) c_2
    have cl_j : (nI j).toNatClampNeg = j := nI_clamp (by omega)
    refine w_aload_n (n := 11) O dX6_mine_10 rfl rfl rfl ?_
    refine w_getf (n := 14) O 2 dX6_mine_11 (by omega) hB rfl (by decide) uX6 uf_X6_22 rfl rfl ?_
    refine w_aload_n (n := 15) O dX6_mine_14 rfl rfl rfl ?_
    refine w_getf (n := 18) O 0 dX6_mine_15 (by omega) hB rfl (by decide) uX6 uf_X6_10 rfl rfl ?_
    refine w_cV (n := 21) (ro := none) (R := fun mM' => isM G mM' (fun k => if k < T.2.2.2.1 then tGives T k else pa k) (am) (w) ∧ sm mM mM' 9 11) (st := []) (st1 := []) (As := [.ref (gb_ad G 1)]) (b := 9) O dX6_mine_18 ul_X6_169 um_X1_gather (f_X1_gather (T := T) hW ⟨hT.1, hT.2.1, hT.2.2.1, hT.2.2.2⟩ (by omega) ok (by omega) ⟨hM.1, hM.2.1, hM.2.2⟩ (fun M' h1 h2 => ⟨rfl, h1, h2⟩)) rfl (by omega) hM.1 rfl rfl rfl rfl (by decide) (Nat.le_of_ble_eq_true rfl) rfl (fun mhM_3 hM_3 => ?_)
    obtain ⟨hMhM_3, hshM_3⟩ := hM_3
    refine w_iconst (n := 22) O dX6_mine_21 (v := (nI 0)) (by decide) rfl ?_
    refine w_istore_n (n := 23) (lv' := [(2, .int (nI 0)), (0, .ref (gb_ad G 0)), (1, .int (nI (j)))]) O dX6_mine_22 rfl (by decide) rfl rfl ?_
    have LI : ∀ (k : Nat) (v : Nat) (m1 : gb_M) (pa1 am1 : Nat → Nat) (w1 : Nat), 41 - v = k → v ≤ 41 → (∀ c, c < v → mineB T j c = false) → isM G m1 pa1 am1 w1 → okP pa1 → (∀ g2, g2 < T.2.2.2.1 → g2 ≠ j → pa1 g2 = tGives T g2) → sm mM m1 9 11 → Wm G X 3 Q 23 [(0, .ref (gb_ad G 0)), (1, .int (nI (j))), (2, .int (nI (v)))] [] m1 := by
      intro k
      induction k using Nat.strongRecOn with
      | ind k ih_LI =>
        intro v m1 pa1 am1 w1 hk hv hno hM1 hp1 hag hs1
        refine w_iload_n (n := 24) O dX6_mine_23 rfl rfl rfl ?_
        refine w_bipush (n := 26) O dX6_mine_24 (v := (nI 40)) (by decide) rfl ?_
        refine w_icmp_gtN (n := 29) (tgt := 72) O dX6_mine_26 (by omega) (by omega) (by decide) rfl (fun c_4 => ?_) (fun c_4 => ?_)
        · skip
          refine w_bipush (n := 74) O dX6_mine_72 (v := (-4)) (by decide) rfl ?_
          refine w_iret O dX6_mine_74 ?_
          have e0 : a_mine T (nI j) = (-4) := by unfold a_mine; rw [if_pos hr_j, cl_j, sF_none (fun c hc => hno c (by omega))]; rfl
          rw [e0] at hQ
          try dsimp only at hQ
          exact hQ _ ⟨((hs1 (0) (by omega)).trans hB), ⟨((hs1 (1) (by omega)).trans hT.1), ((hs1 (2) (by omega)).trans hT.2.1), ((hs1 (3) (by omega)).trans hT.2.2.1), ((hs1 (4) (by omega)).trans hT.2.2.2)⟩, hok, (hU.kp (kp_sm hs1 (by omega))), ⟨_, _, _, ⟨hM1.1, hM1.2.1, hM1.2.2⟩, hp1⟩, (hP.kp (kp_sm hs1 (by omega))), (hS.kp (kp_sm hs1 (by omega))), (hG.kp (kp_sm hs1 (by omega))), (hI.kp (kp_sm hs1 (by omega))), ((hs1 (39) (by omega)).trans hK), (hH.kp (kp_sm hs1 (by omega)))⟩ (sm.rf.tr (hs1.mono (by omega) (by omega)))
        · skip
          refine w_aload_n (n := 30) O dX6_mine_29 rfl rfl rfl ?_
          refine w_getf (n := 33) O 2 dX6_mine_30 (by omega) ((hs1 (0) (by omega)).trans hB) rfl (by decide) uX6 uf_X6_22 rfl rfl ?_
          refine w_getf (n := 36) O 0 dX6_mine_33 (by omega) hM1.1 rfl (by decide) uX1 uf_X6_153 rfl rfl ?_
          refine w_iload_n (n := 37) O dX6_mine_36 rfl rfl rfl ?_
          refine w_iload_n (n := 38) O dX6_mine_37 rfl rfl rfl ?_
          refine w_iastN (n := 39) O dX6_mine_38 hW.2.1 (by omega) hM1.2.1 (by omega) (by decide) rfl ?_
          have hpv : okP (upN pa1 j v) := okP_up hp1 (by omega)
          refine w_aload_n (n := 40) O dX6_mine_39 rfl rfl rfl ?_
          refine w_getf (n := 43) O 2 dX6_mine_40 (by omega) ((va_up_ne _ _ (by decide)).trans ((hs1 (0) (by omega)).trans hB)) rfl (by decide) uX6 uf_X6_22 rfl rfl ?_
          refine w_aload_n (n := 44) O dX6_mine_43 rfl rfl rfl ?_
          refine w_getf (n := 47) O 0 dX6_mine_44 (by omega) ((va_up_ne _ _ (by decide)).trans ((hs1 (0) (by omega)).trans hB)) rfl (by decide) uX6 uf_X6_10 rfl rfl ?_
          refine w_cV (n := 50) (ro := none) (R := fun mM' => isM G mM' (upN (pa1) (j) (v)) (mAm T (upN (pa1) (j) (v))) (mWt T (upN (pa1) (j) (v))) ∧ sm (va_up m1 (10) (IN G 4 (upN (pa1) (j) (v)))) mM' 9 11) (st := []) (st1 := []) (As := [.ref (gb_ad G 1)]) (b := 9) O dX6_mine_47 ul_X6_172 um_X1_pour (f_X1_pour (T := T) hW ⟨((va_up_ne _ _ (by decide)).trans ((hs1 (1) (by omega)).trans hT.1)), ((va_up_ne _ _ (by decide)).trans ((hs1 (2) (by omega)).trans hT.2.1)), ((va_up_ne _ _ (by decide)).trans ((hs1 (3) (by omega)).trans hT.2.2.1)), ((va_up_ne _ _ (by decide)).trans ((hs1 (4) (by omega)).trans hT.2.2.2))⟩ (by omega) ok (by omega) ⟨((va_up_ne _ _ (by decide)).trans hM1.1), (va_up_self _ _ _), ((va_up_ne _ _ (by decide)).trans hM1.2.2)⟩ hpv (fun M' h1 h2 => ⟨rfl, h1, h2⟩)) rfl (by omega) ((va_up_ne _ _ (by decide)).trans hM1.1) rfl rfl rfl rfl (by decide) (Nat.le_of_ble_eq_true rfl) rfl (fun mhM_5 hM_5 => ?_)
          obtain ⟨hMhM_5, hshM_5⟩ := hM_5
          have emv : pTrue T (mAm T (upN pa1 j v)) (mWt T (upN pa1 j v)) = mineB T j v := by unfold mineB; rw [mAm_cong (mine_cong hag), mWt_cong (mine_cong hag)]
          refine w_aload_n (n := 51) O dX6_mine_50 rfl rfl rfl ?_
          refine w_getf (n := 54) O 2 dX6_mine_51 (by omega) ((hshM_5 (0) (by omega)).trans ((va_up_ne _ _ (by decide)).trans ((hs1 (0) (by omega)).trans hB))) rfl (by decide) uX6 uf_X6_22 rfl rfl ?_
          refine w_aload_n (n := 55) O dX6_mine_54 rfl rfl rfl ?_
          refine w_getf (n := 58) O 0 dX6_mine_55 (by omega) ((hshM_5 (0) (by omega)).trans ((va_up_ne _ _ (by decide)).trans ((hs1 (0) (by omega)).trans hB))) rfl (by decide) uX6 uf_X6_10 rfl rfl ?_
          refine w_cV (n := 61) (ro := some (.int (bI (pTrue T (mAm T (upN (pa1) (j) (v))) (mWt T (upN (pa1) (j) (v))))))) (R := fun mM' => mhM_5 = mM') (st := []) (st1 := [.int (bI (pTrue T (mAm T (upN (pa1) (j) (v))) (mWt T (upN (pa1) (j) (v)))))]) (As := [.ref (gb_ad G 1)]) (b := 9) O dX6_mine_58 ul_X6_146 um_X1_isTrue (f_X1_isTrue (T := T) hW ⟨((hshM_5 (1) (by omega)).trans ((va_up_ne _ _ (by decide)).trans ((hs1 (1) (by omega)).trans hT.1))), ((hshM_5 (2) (by omega)).trans ((va_up_ne _ _ (by decide)).trans ((hs1 (2) (by omega)).trans hT.2.1))), ((hshM_5 (3) (by omega)).trans ((va_up_ne _ _ (by decide)).trans ((hs1 (3) (by omega)).trans hT.2.2.1))), ((hshM_5 (4) (by omega)).trans ((va_up_ne _ _ (by decide)).trans ((hs1 (4) (by omega)).trans hT.2.2.2)))⟩ (by omega) ok (by omega) ⟨hMhM_5.1, hMhM_5.2.1, hMhM_5.2.2⟩ (fun m _ => mAm_le ok hpv m) (mWt_le ok hpv (Nat.le_refl 3)) ⟨rfl, rfl⟩) rfl (by omega) hMhM_5.1 rfl rfl rfl rfl (by decide) (Nat.le_of_ble_eq_true rfl) rfl (fun mhM_6 hM_6 => ?_)
          subst hM_6
          refine w_if_eqB (n := 64) (tgt := 66) O dX6_mine_61 (by decide) rfl (fun c_7 => ?_) (fun c_7 => ?_)
          · skip
            refine w_iincN (n := 69) (lv' := [(2, .int (nI (v + 1))), (0, .ref (gb_ad G 0)), (1, .int (nI (j)))]) O dX6_mine_66 rfl (by decide) rfl rfl ?_
            refine w_goto (tgt := 23) O dX6_mine_69 (by decide) ?_
            refine w_lv (lv2 := [(0, .ref (gb_ad G 0)), (1, .int (nI (j))), (2, .int (nI (v + 1)))]) [1, 2, 0] rfl ?_
            exact ih_LI _ (by omega) (v + 1) _ _ _ _ rfl (by omega) (fun c hc => by rcases Nat.lt_or_ge c v with q | q; exact hno c q; rw [show c = v by omega]; exact emv.symm.trans c_7) ⟨hMhM_5.1, hMhM_5.2.1, hMhM_5.2.2⟩ hpv (fun g2 h1 h2 => by rw [upN_ne _ _ h2]; exact hag g2 h1 h2) (((sm.rf.tr (hs1.mono (by omega) (by omega))).up (by omega) (by omega)).tr (hshM_5.mono (by omega) (by omega)))
          · skip
            refine w_iload_n (n := 65) O dX6_mine_64 rfl rfl rfl ?_
            refine w_iret O dX6_mine_65 ?_
            have e0 : a_mine T (nI j) = (nI (v)) := by unfold a_mine; rw [if_pos hr_j, cl_j, sF_at (emv.symm.trans c_7) hno (by omega)]; rfl
            rw [e0] at hQ
            try dsimp only at hQ
            exact hQ _ ⟨((hshM_5 (0) (by omega)).trans ((va_up_ne _ _ (by decide)).trans ((hs1 (0) (by omega)).trans hB))), ⟨((hshM_5 (1) (by omega)).trans ((va_up_ne _ _ (by decide)).trans ((hs1 (1) (by omega)).trans hT.1))), ((hshM_5 (2) (by omega)).trans ((va_up_ne _ _ (by decide)).trans ((hs1 (2) (by omega)).trans hT.2.1))), ((hshM_5 (3) (by omega)).trans ((va_up_ne _ _ (by decide)).trans ((hs1 (3) (by omega)).trans hT.2.2.1))), ((hshM_5 (4) (by omega)).trans ((va_up_ne _ _ (by decide)).trans ((hs1 (4) (by omega)).trans hT.2.2.2)))⟩, hok, (((hU.kp (kp_sm hs1 (by omega))).kp (kp_up (by omega))).kp (kp_sm hshM_5 (by omega))), ⟨_, _, _, ⟨hMhM_5.1, hMhM_5.2.1, hMhM_5.2.2⟩, hpv⟩, (((hP.kp (kp_sm hs1 (by omega))).kp (kp_up (by omega))).kp (kp_sm hshM_5 (by omega))), (((hS.kp (kp_sm hs1 (by omega))).kp (kp_up (by omega))).kp (kp_sm hshM_5 (by omega))), (((hG.kp (kp_sm hs1 (by omega))).kp (kp_up (by omega))).kp (kp_sm hshM_5 (by omega))), (((hI.kp (kp_sm hs1 (by omega))).kp (kp_up (by omega))).kp (kp_sm hshM_5 (by omega))), ((hshM_5 (39) (by omega)).trans ((va_up_ne _ _ (by decide)).trans ((hs1 (39) (by omega)).trans hK))), (((hH.kp (kp_sm hs1 (by omega))).kp (kp_up (by omega))).kp (kp_sm hshM_5 (by omega)))⟩ (((sm.rf.tr (hs1.mono (by omega) (by omega))).up (by omega) (by omega)).tr (hshM_5.mono (by omega) (by omega)))
    refine w_lv (lv2 := [(0, .ref (gb_ad G 0)), (1, .int (nI (j))), (2, .int (nI 0))]) [1, 2, 0] rfl ?_
    exact LI _ 0 _ _ _ _ rfl (by omega) (fun c hc => absurd hc (Nat.not_lt_zero c)) ⟨hMhM_3.1, hMhM_3.2.1, hMhM_3.2.2⟩ (okP_gp ok hp) (fun g2 h1 _ => if_pos h1) (sm.rf.tr (hshM_3.mono (by omega) (by omega)))
  · skip
    refine w_iconst (n := 9) O dX6_mine_8 (v := (-1)) (by decide) rfl ?_
    refine w_iret O dX6_mine_9 ?_
    have e0 : a_mine T g = -1 := by unfold a_mine; rw [if_neg (by rw [c_2]; decide)]
    rw [e0] at hQ
    try dsimp only at hQ
    exact hQ _ ⟨hB, ⟨hT.1, hT.2.1, hT.2.2.1, hT.2.2.2⟩, hok, hU, ⟨_, _, _, ⟨hM.1, hM.2.1, hM.2.2⟩, hp⟩, hP, hS, hG, hI, hK, hH⟩ sm.rf
set_option maxRecDepth 100000 in
set_option maxHeartbeats 4000000 in
theorem f_X6_without {G : gb_G} (hW : gW G) {Q : Option Value → gb_M → Prop} {mM : gb_M} {T : Tw} {im : Nat → Tw} {kp : Nat → Bool} {bs : Nat → Nat} {ln fa : Nat} {st sf : Nat → Nat} {sn : Nat} {sh : Sh} {sc : Nat → Nat → Int32} {tn : Nat} (hC : isCW G mM T im kp bs ln fa st sf sn sh sc tn) {g : Int32}  (hQ : ∀ M', isCW G M' T im kp bs ln fa st sf sn sh sc tn → sm mM M' 0 48 → Q (some (.int (a_without T g))) M') : Fn G 5 yX6_without cX6_without 2 (some .int) [.ref (gb_ad G 0), .int (g)] mM Q := by
  obtain ⟨hB, hT, hok, hU, hMx, hP, hS, hG, hI, hK, hH⟩ := hC
  have ok := hok.1
  have hn4 := ok.1
  have hst9 := hok.2.1
  have hln := hok.2.2.2.1
  have hsn6 := hok.2.2.2.2.2.2.1
  obtain ⟨pa, am, w, hM, hp⟩ := hMx
  have hN := hW.2.2.1
  refine Fn.of hW.1 [(0, .ref (gb_ad G 0)), (1, .int (g))] (by decide) (Nat.le_of_ble_eq_true rfl) rfl ?_
  intro X O
  refine w_aload_n (n := 1) O dX6_without_0 rfl rfl rfl ?_
  refine w_iload_n (n := 2) O dX6_without_1 rfl rfl rfl ?_
  refine w_cV (n := 5) (ro := some (.int (bI (isGv (g) T.2.2.2.1)))) (R := fun mM' => mM = mM') (st := []) (st1 := [.int (bI (isGv (g) T.2.2.2.1))]) (As := [.int (g)]) (b := 0) O dX6_without_2 ul_X6_110 um_X6_isGiver (f_X6_isGiver (T := T) hW hB ⟨hT.1, hT.2.1, hT.2.2.1, hT.2.2.2⟩ ok ⟨rfl, rfl⟩) rfl (by omega) hB rfl rfl rfl rfl (by decide) (Nat.le_of_ble_eq_true rfl) rfl (fun mhM_1 hM_1 => ?_)
  subst hM_1
  refine w_if_neB (n := 8) (tgt := 10) O dX6_without_5 (by decide) rfl (fun c_2 => ?_) (fun c_2 => ?_)
  · skip
    have hr_j := c_2
    obtain ⟨j, ja, rfl⟩ := isGv_t (by omega) c_2
    have cl_j : (nI j).toNatClampNeg = j := nI_clamp (by omega)
    refine w_aload_n (n := 11) O dX6_without_10 rfl rfl rfl ?_
    refine w_getf (n := 14) O 2 dX6_without_11 (by omega) hB rfl (by decide) uX6 uf_X6_22 rfl rfl ?_
    refine w_aload_n (n := 15) O dX6_without_14 rfl rfl rfl ?_
    refine w_getf (n := 18) O 0 dX6_without_15 (by omega) hB rfl (by decide) uX6 uf_X6_10 rfl rfl ?_
    refine w_cV (n := 21) (ro := none) (R := fun mM' => isM G mM' (fun k => if k < T.2.2.2.1 then tGives T k else pa k) (am) (w) ∧ sm mM mM' 9 11) (st := []) (st1 := []) (As := [.ref (gb_ad G 1)]) (b := 9) O dX6_without_18 ul_X6_169 um_X1_gather (f_X1_gather (T := T) hW ⟨hT.1, hT.2.1, hT.2.2.1, hT.2.2.2⟩ (by omega) ok (by omega) ⟨hM.1, hM.2.1, hM.2.2⟩ (fun M' h1 h2 => ⟨rfl, h1, h2⟩)) rfl (by omega) hM.1 rfl rfl rfl rfl (by decide) (Nat.le_of_ble_eq_true rfl) rfl (fun mhM_3 hM_3 => ?_)
    obtain ⟨hMhM_3, hshM_3⟩ := hM_3
    refine w_aload_n (n := 22) O dX6_without_21 rfl rfl rfl ?_
    refine w_getf (n := 25) O 2 dX6_without_22 (by omega) ((hshM_3 (0) (by omega)).trans hB) rfl (by decide) uX6 uf_X6_22 rfl rfl ?_
    refine w_getf (n := 28) O 0 dX6_without_25 (by omega) hMhM_3.1 rfl (by decide) uX1 uf_X6_153 rfl rfl ?_
    refine w_iload_n (n := 29) O dX6_without_28 rfl rfl rfl ?_
    refine w_iconst (n := 30) O dX6_without_29 (v := (nI 0)) (by decide) rfl ?_
    refine w_iastN (n := 31) O dX6_without_30 hW.2.1 (by omega) hMhM_3.2.1 (by omega) (by decide) rfl ?_
    have hpw : okP (upN (fun k => if k < T.2.2.2.1 then tGives T k else pa k) j 0) := okP_up (okP_gp ok hp) (by omega)
    have hagw : ∀ g2, g2 < T.2.2.2.1 → g2 ≠ j → (fun k => if k < T.2.2.2.1 then tGives T k else pa k) g2 = tGives T g2 := fun g2 h1 _ => if_pos h1
    refine w_aload_n (n := 32) O dX6_without_31 rfl rfl rfl ?_
    refine w_getf (n := 35) O 2 dX6_without_32 (by omega) ((va_up_ne _ _ (by decide)).trans ((hshM_3 (0) (by omega)).trans hB)) rfl (by decide) uX6 uf_X6_22 rfl rfl ?_
    refine w_aload_n (n := 36) O dX6_without_35 rfl rfl rfl ?_
    refine w_getf (n := 39) O 0 dX6_without_36 (by omega) ((va_up_ne _ _ (by decide)).trans ((hshM_3 (0) (by omega)).trans hB)) rfl (by decide) uX6 uf_X6_10 rfl rfl ?_
    refine w_cV (n := 42) (ro := none) (R := fun mM' => isM G mM' (upN (fun k => if k < T.2.2.2.1 then tGives T k else pa k) (j) (0)) (mAm T (upN (fun k => if k < T.2.2.2.1 then tGives T k else pa k) (j) (0))) (mWt T (upN (fun k => if k < T.2.2.2.1 then tGives T k else pa k) (j) (0))) ∧ sm (va_up mhM_3 (10) (IN G 4 (upN (fun k => if k < T.2.2.2.1 then tGives T k else pa k) (j) (0)))) mM' 9 11) (st := []) (st1 := []) (As := [.ref (gb_ad G 1)]) (b := 9) O dX6_without_39 ul_X6_172 um_X1_pour (f_X1_pour (T := T) hW ⟨((va_up_ne _ _ (by decide)).trans ((hshM_3 (1) (by omega)).trans hT.1)), ((va_up_ne _ _ (by decide)).trans ((hshM_3 (2) (by omega)).trans hT.2.1)), ((va_up_ne _ _ (by decide)).trans ((hshM_3 (3) (by omega)).trans hT.2.2.1)), ((va_up_ne _ _ (by decide)).trans ((hshM_3 (4) (by omega)).trans hT.2.2.2))⟩ (by omega) ok (by omega) ⟨((va_up_ne _ _ (by decide)).trans hMhM_3.1), (va_up_self _ _ _), ((va_up_ne _ _ (by decide)).trans hMhM_3.2.2)⟩ hpw (fun M' h1 h2 => ⟨rfl, h1, h2⟩)) rfl (by omega) ((va_up_ne _ _ (by decide)).trans hMhM_3.1) rfl rfl rfl rfl (by decide) (Nat.le_of_ble_eq_true rfl) rfl (fun mhM_4 hM_4 => ?_)
    obtain ⟨hMhM_4, hshM_4⟩ := hM_4
    refine w_aload_n (n := 43) O dX6_without_42 rfl rfl rfl ?_
    refine w_getf (n := 46) O 2 dX6_without_43 (by omega) ((hshM_4 (0) (by omega)).trans ((va_up_ne _ _ (by decide)).trans ((hshM_3 (0) (by omega)).trans hB))) rfl (by decide) uX6 uf_X6_22 rfl rfl ?_
    refine w_cV (n := 49) (ro := some (.int (oI (pNote (mAm T (upN (fun k => if k < T.2.2.2.1 then tGives T k else pa k) (j) (0))) (mWt T (upN (fun k => if k < T.2.2.2.1 then tGives T k else pa k) (j) (0))))))) (R := fun mM' => mhM_4 = mM') (st := []) (st1 := [.int (oI (pNote (mAm T (upN (fun k => if k < T.2.2.2.1 then tGives T k else pa k) (j) (0))) (mWt T (upN (fun k => if k < T.2.2.2.1 then tGives T k else pa k) (j) (0)))))]) (As := []) (b := 9) O dX6_without_46 ul_X6_139 um_X1_pitch (f_X1_pitch hW ⟨hMhM_4.1, hMhM_4.2.1, hMhM_4.2.2⟩ (fun m _ => mAm_le ok hpw m) (mWt_le ok hpw (Nat.le_refl 3)) ⟨rfl, rfl⟩) rfl (by omega) hMhM_4.1 rfl rfl rfl rfl (by decide) (Nat.le_of_ble_eq_true rfl) rfl (fun mhM_5 hM_5 => ?_)
    subst hM_5
    refine w_iret O dX6_without_49 ?_
    have e0 : a_without T (nI j) = (oI (pNote (mAm T (upN (fun k => if k < T.2.2.2.1 then tGives T k else pa k) (j) (0))) (mWt T (upN (fun k => if k < T.2.2.2.1 then tGives T k else pa k) (j) (0))))) := by unfold a_without; rw [if_pos hr_j, cl_j, mAm_cong (mine_cong (v := 0) hagw), mWt_cong (mine_cong (v := 0) hagw)]
    rw [e0] at hQ
    try dsimp only at hQ
    exact hQ _ ⟨((hshM_4 (0) (by omega)).trans ((va_up_ne _ _ (by decide)).trans ((hshM_3 (0) (by omega)).trans hB))), ⟨((hshM_4 (1) (by omega)).trans ((va_up_ne _ _ (by decide)).trans ((hshM_3 (1) (by omega)).trans hT.1))), ((hshM_4 (2) (by omega)).trans ((va_up_ne _ _ (by decide)).trans ((hshM_3 (2) (by omega)).trans hT.2.1))), ((hshM_4 (3) (by omega)).trans ((va_up_ne _ _ (by decide)).trans ((hshM_3 (3) (by omega)).trans hT.2.2.1))), ((hshM_4 (4) (by omega)).trans ((va_up_ne _ _ (by decide)).trans ((hshM_3 (4) (by omega)).trans hT.2.2.2)))⟩, hok, (((hU.kp (kp_sm hshM_3 (by omega))).kp (kp_up (by omega))).kp (kp_sm hshM_4 (by omega))), ⟨_, _, _, ⟨hMhM_4.1, hMhM_4.2.1, hMhM_4.2.2⟩, hpw⟩, (((hP.kp (kp_sm hshM_3 (by omega))).kp (kp_up (by omega))).kp (kp_sm hshM_4 (by omega))), (((hS.kp (kp_sm hshM_3 (by omega))).kp (kp_up (by omega))).kp (kp_sm hshM_4 (by omega))), (((hG.kp (kp_sm hshM_3 (by omega))).kp (kp_up (by omega))).kp (kp_sm hshM_4 (by omega))), (((hI.kp (kp_sm hshM_3 (by omega))).kp (kp_up (by omega))).kp (kp_sm hshM_4 (by omega))), ((hshM_4 (39) (by omega)).trans ((va_up_ne _ _ (by decide)).trans ((hshM_3 (39) (by omega)).trans hK))), (((hH.kp (kp_sm hshM_3 (by omega))).kp (kp_up (by omega))).kp (kp_sm hshM_4 (by omega)))⟩ (((sm.rf.tr (hshM_3.mono (by omega) (by omega))).up (by omega) (by omega)).tr (hshM_4.mono (by omega) (by omega)))
  · skip
    refine w_iconst (n := 9) O dX6_without_8 (v := (-1)) (by decide) rfl ?_
    refine w_iret O dX6_without_9 ?_
    have e0 : a_without T g = -1 := by unfold a_without; rw [if_neg (by rw [c_2]; decide)]
    rw [e0] at hQ
    try dsimp only at hQ
    exact hQ _ ⟨hB, ⟨hT.1, hT.2.1, hT.2.2.1, hT.2.2.2⟩, hok, hU, ⟨_, _, _, ⟨hM.1, hM.2.1, hM.2.2⟩, hp⟩, hP, hS, hG, hI, hK, hH⟩ sm.rf
set_option maxRecDepth 100000 in
set_option maxHeartbeats 4000000 in
theorem f_X6_least {G : gb_G} (hW : gW G) {Q : Option Value → gb_M → Prop} {mM : gb_M} {T : Tw} {im : Nat → Tw} {kp : Nat → Bool} {bs : Nat → Nat} {ln fa : Nat} {st sf : Nat → Nat} {sn : Nat} {sh : Sh} {sc : Nat → Nat → Int32} {tn : Nat} (hC : isCW G mM T im kp bs ln fa st sf sn sh sc tn) {x : Int32}  (hQ : ∀ M', isCW G M' T im kp bs ln fa st sf sn sh sc tn → sm mM M' 0 48 → Q (some (.int (a_least T x))) M') : Fn G 7 yX6_least cX6_least 3 (some .int) [.ref (gb_ad G 0), .int (x)] mM Q := by
  obtain ⟨hB, hT, hok, hU, hMx, hP, hS, hG, hI, hK, hH⟩ := hC
  have ok := hok.1
  have hn4 := ok.1
  have hst9 := hok.2.1
  have hln := hok.2.2.2.1
  have hsn6 := hok.2.2.2.2.2.2.1
  obtain ⟨U, hU⟩ := hU
  obtain ⟨pa, am, w, hM, hp⟩ := hMx
  have hN := hW.2.2.1
  refine Fn.of hW.1 [(0, .ref (gb_ad G 0)), (1, .int (x))] (by decide) (Nat.le_of_ble_eq_true rfl) rfl ?_
  intro X O
  refine w_iload_n (n := 1) O dX6_least_0 rfl rfl rfl ?_
  refine w_iconst (n := 2) O dX6_least_1 (v := (nI 0)) (by decide) rfl ?_
  refine w_iconst (n := 3) O dX6_least_2 (v := (nI 2)) (by decide) rfl ?_
  refine w_cS (n := 6) (ro := some (.int (bI (wIn (x) (nI (0)) (nI (2)))))) (R := fun mM' => mM = mM') (st := []) (st1 := [.int (bI (wIn (x) (nI (0)) (nI (2))))]) (As := [.int (x), .int (nI 0), .int (nI 2)]) O dX6_least_3 ul_X6_66 um_X6_within (f_X6_within hW ⟨rfl, rfl⟩) rfl rfl rfl (by decide) (Nat.le_of_ble_eq_true rfl) rfl (fun mhM_1 hM_1 => ?_)
  subst hM_1
  refine w_if_neB (n := 9) (tgt := 11) O dX6_least_6 (by decide) rfl (fun c_2 => ?_) (fun c_2 => ?_)
  · skip
    have hr_j := c_2
    obtain ⟨j, ja, jb, rfl⟩ := wIn_t (by omega) c_2 (by omega)
    have cl_j : (nI j).toNatClampNeg = j := nI_clamp (by omega)
    refine w_aload_n (n := 12) O dX6_least_11 rfl rfl rfl ?_
    refine w_getf (n := 15) O 1 dX6_least_12 (by omega) hB rfl (by decide) uX6 uf_X6_16 rfl rfl ?_
    refine w_aload_n (n := 16) O dX6_least_15 rfl rfl rfl ?_
    refine w_getf (n := 19) O 0 dX6_least_16 (by omega) hB rfl (by decide) uX6 uf_X6_10 rfl rfl ?_
    refine w_cV (n := 22) (ro := none) (R := fun mM' => isT G mM' (5) T ∧ sm mM mM' (5) (5 + 3)) (st := []) (st1 := []) (As := [.ref (gb_ad G 1)]) (b := 5) O dX6_least_19 ul_X6_87 um_X5_becomes (f_X5_becomes (T := U) (U := T) hW ⟨hU.1, hU.2.1, hU.2.2.1, hU.2.2.2⟩ (by omega) ⟨hT.1, hT.2.1, hT.2.2.1, hT.2.2.2⟩ (by omega) (by omega) (fun M' h1 h2 => ⟨rfl, h1, h2⟩)) rfl (by omega) hU.1 rfl rfl rfl rfl (by omega) (Nat.le_of_ble_eq_true rfl) rfl (fun mhM_3 hM_3 => ?_)
    obtain ⟨hThM_3, hshM_3⟩ := hM_3
    refine w_iconst (n := 23) O dX6_least_22 (v := (nI 0)) (by decide) rfl ?_
    refine w_istore_n (n := 24) (lv' := [(2, .int (nI 0)), (0, .ref (gb_ad G 0)), (1, .int (nI (j)))]) O dX6_least_23 rfl (by decide) rfl rfl ?_
    have LL : ∀ (k : Nat) (v : Nat) (m1 : gb_M) (ad1 pa1 am1 : Nat → Nat) (w1 : Nat), 41 - v = k → v ≤ 41 → (∀ c, c < v → leastB T j c = false) → isT G m1 5 (T.1, ad1, T.2.2) → (∀ k, k ≠ j → ad1 k = T.2.1 k) → isM G m1 pa1 am1 w1 → okP pa1 → sm mM m1 5 11 → Wm G X 3 Q 24 [(0, .ref (gb_ad G 0)), (1, .int (nI (j))), (2, .int (nI (v)))] [] m1 := by
      intro k
      induction k using Nat.strongRecOn with
      | ind k ih_LL =>
        intro v m1 ad1 pa1 am1 w1 hk hv hno hV1 had hM1 hp1 hs1
        refine w_iload_n (n := 25) O dX6_least_24 rfl rfl rfl ?_
        refine w_bipush (n := 27) O dX6_least_25 (v := (nI 40)) (by decide) rfl ?_
        refine w_icmp_gtN (n := 30) (tgt := 59) O dX6_least_27 (by omega) (by omega) (by decide) rfl (fun c_4 => ?_) (fun c_4 => ?_)
        · skip
          refine w_bipush (n := 61) O dX6_least_59 (v := (-4)) (by decide) rfl ?_
          refine w_iret O dX6_least_61 ?_
          have e0 : a_least T (nI j) = (-4) := by unfold a_least; rw [if_pos hr_j, cl_j, sF_none (fun c hc => hno c (by omega))]; rfl
          rw [e0] at hQ
          try dsimp only at hQ
          exact hQ _ ⟨((hs1 (0) (by omega)).trans hB), ⟨((hs1 (1) (by omega)).trans hT.1), ((hs1 (2) (by omega)).trans hT.2.1), ((hs1 (3) (by omega)).trans hT.2.2.1), ((hs1 (4) (by omega)).trans hT.2.2.2)⟩, hok, ⟨(T.1, ad1, T.2.2), ⟨hV1.1, hV1.2.1, hV1.2.2.1, hV1.2.2.2⟩⟩, ⟨_, _, _, ⟨hM1.1, hM1.2.1, hM1.2.2⟩, hp1⟩, (hP.kp (kp_sm hs1 (by omega))), (hS.kp (kp_sm hs1 (by omega))), (hG.kp (kp_sm hs1 (by omega))), (hI.kp (kp_sm hs1 (by omega))), ((hs1 (39) (by omega)).trans hK), (hH.kp (kp_sm hs1 (by omega)))⟩ (sm.rf.tr (hs1.mono (by omega) (by omega)))
        · skip
          have eav : upN ad1 j v = upN T.2.1 j v := by funext k; unfold upN; split; rfl; exact had k (by assumption)
          refine w_aload_n (n := 31) O dX6_least_30 rfl rfl rfl ?_
          refine w_getf (n := 34) O 1 dX6_least_31 (by omega) ((hs1 (0) (by omega)).trans hB) rfl (by decide) uX6 uf_X6_16 rfl rfl ?_
          refine w_getf (n := 37) O 1 dX6_least_34 (by omega) hV1.1 rfl (by decide) uX5 uf_X6_124 rfl rfl ?_
          refine w_iload_n (n := 38) O dX6_least_37 rfl rfl rfl ?_
          refine w_iload_n (n := 39) O dX6_least_38 rfl rfl rfl ?_
          refine w_iastN (n := 40) O dX6_least_39 hW.2.1 (by omega) hV1.2.2.1 (by omega) (by decide) rfl ?_
          have okv : okT (T.1, upN ad1 j v, T.2.2) := by rw [eav]; exact okT_ad ok (by omega)
          refine w_aload_n (n := 41) O dX6_least_40 rfl rfl rfl ?_
          refine w_aload_n (n := 42) O dX6_least_41 rfl rfl rfl ?_
          refine w_getf (n := 45) O 1 dX6_least_42 (by omega) ((va_up_ne _ _ (by decide)).trans ((hs1 (0) (by omega)).trans hB)) rfl (by decide) uX6 uf_X6_16 rfl rfl ?_
          refine w_cV (n := 48) (ro := some (.int (bI (tTrue (((T.1, ad1, T.2.2).1, upN ((T.1, ad1, T.2.2).2.1) (j) (v), (T.1, ad1, T.2.2).2.2.1, (T.1, ad1, T.2.2).2.2.2.1, (T.1, ad1, T.2.2).2.2.2.2.1, (T.1, ad1, T.2.2).2.2.2.2.2.1, (T.1, ad1, T.2.2).2.2.2.2.2.2)))))) (R := fun mM' => ∃ pa' : Nat → Nat, isM G mM' pa' (bAm (((T.1, ad1, T.2.2).1, upN ((T.1, ad1, T.2.2).2.1) (j) (v), (T.1, ad1, T.2.2).2.2.1, (T.1, ad1, T.2.2).2.2.2.1, (T.1, ad1, T.2.2).2.2.2.2.1, (T.1, ad1, T.2.2).2.2.2.2.2.1, (T.1, ad1, T.2.2).2.2.2.2.2.2))) (bWt (((T.1, ad1, T.2.2).1, upN ((T.1, ad1, T.2.2).2.1) (j) (v), (T.1, ad1, T.2.2).2.2.1, (T.1, ad1, T.2.2).2.2.2.1, (T.1, ad1, T.2.2).2.2.2.2.1, (T.1, ad1, T.2.2).2.2.2.2.2.1, (T.1, ad1, T.2.2).2.2.2.2.2.2))) ∧ (∀ g, g < (((T.1, ad1, T.2.2).1, upN ((T.1, ad1, T.2.2).2.1) (j) (v), (T.1, ad1, T.2.2).2.2.1, (T.1, ad1, T.2.2).2.2.2.1, (T.1, ad1, T.2.2).2.2.2.2.1, (T.1, ad1, T.2.2).2.2.2.2.2.1, (T.1, ad1, T.2.2).2.2.2.2.2.2)).2.2.2.1 → pa' g = tGives (((T.1, ad1, T.2.2).1, upN ((T.1, ad1, T.2.2).2.1) (j) (v), (T.1, ad1, T.2.2).2.2.1, (T.1, ad1, T.2.2).2.2.2.1, (T.1, ad1, T.2.2).2.2.2.2.1, (T.1, ad1, T.2.2).2.2.2.2.2.1, (T.1, ad1, T.2.2).2.2.2.2.2.2)) g) ∧ okP pa' ∧ sm (va_up m1 (7) (IN G 3 (upN ((T.1, ad1, T.2.2).2.1) (j) (v)))) mM' 9 11) (st := []) (st1 := [.int (bI (tTrue (((T.1, ad1, T.2.2).1, upN ((T.1, ad1, T.2.2).2.1) (j) (v), (T.1, ad1, T.2.2).2.2.1, (T.1, ad1, T.2.2).2.2.2.1, (T.1, ad1, T.2.2).2.2.2.2.1, (T.1, ad1, T.2.2).2.2.2.2.2.1, (T.1, ad1, T.2.2).2.2.2.2.2.2))))]) (As := [.ref (gb_ad G 5)]) (b := 0) O dX6_least_45 ul_X6_175 um_X6_castsTrue (f_X6_castsTrue (T := ((T.1, ad1, T.2.2).1, upN ((T.1, ad1, T.2.2).2.1) (j) (v), (T.1, ad1, T.2.2).2.2.1, (T.1, ad1, T.2.2).2.2.2.1, (T.1, ad1, T.2.2).2.2.2.2.1, (T.1, ad1, T.2.2).2.2.2.2.2.1, (T.1, ad1, T.2.2).2.2.2.2.2.2)) hW ((va_up_ne _ _ (by decide)).trans ((hs1 (0) (by omega)).trans hB)) ⟨((va_up_ne _ _ (by decide)).trans hV1.1), ((va_up_ne _ _ (by decide)).trans hV1.2.1), (va_up_self _ _ _), ((va_up_ne _ _ (by decide)).trans hV1.2.2.2)⟩ (by omega) okv (by omega) ⟨((va_up_ne _ _ (by decide)).trans hM1.1), ((va_up_ne _ _ (by decide)).trans hM1.2.1), ((va_up_ne _ _ (by decide)).trans hM1.2.2)⟩ hp1 (fun M' pa' h1 h2 h3 h4 => ⟨rfl, pa', h1, h2, h3, h4⟩)) rfl (by omega) ((va_up_ne _ _ (by decide)).trans ((hs1 (0) (by omega)).trans hB)) rfl rfl rfl rfl (by decide) (Nat.le_of_ble_eq_true rfl) rfl (fun mhM_5 hM_5 => ?_)
          obtain ⟨pahM_5, hMhM_5, hghM_5, hphM_5, hshM_5⟩ := hM_5
          refine w_if_eqB (n := 51) (tgt := 53) O dX6_least_48 (by decide) rfl (fun c_6 => ?_) (fun c_6 => ?_)
          · skip
            refine w_iincN (n := 56) (lv' := [(2, .int (nI (v + 1))), (0, .ref (gb_ad G 0)), (1, .int (nI (j)))]) O dX6_least_53 rfl (by decide) rfl rfl ?_
            refine w_goto (tgt := 24) O dX6_least_56 (by decide) ?_
            refine w_lv (lv2 := [(0, .ref (gb_ad G 0)), (1, .int (nI (j))), (2, .int (nI (v + 1)))]) [1, 2, 0] rfl ?_
            exact ih_LL _ (by omega) (v + 1) _ (upN T.2.1 j v) _ _ _ rfl (by omega) (fun c hc => by rcases Nat.lt_or_ge c v with q | q; exact hno c q; rw [show c = v by omega]; unfold leastB; rw [← eav]; exact c_6) (by rw [← eav]; exact ⟨((hshM_5 (5) (by omega)).trans ((va_up_ne _ _ (by decide)).trans hV1.1)), ((hshM_5 (6) (by omega)).trans ((va_up_ne _ _ (by decide)).trans hV1.2.1)), ((hshM_5 (7) (by omega)).trans (va_up_self _ _ _)), ((hshM_5 (8) (by omega)).trans ((va_up_ne _ _ (by decide)).trans hV1.2.2.2))⟩) (fun k hk => upN_ne _ _ hk) ⟨hMhM_5.1, hMhM_5.2.1, hMhM_5.2.2⟩ hphM_5 (((sm.rf.tr (hs1.mono (by omega) (by omega))).up (by omega) (by omega)).tr (hshM_5.mono (by omega) (by omega)))
          · skip
            refine w_iload_n (n := 52) O dX6_least_51 rfl rfl rfl ?_
            refine w_iret O dX6_least_52 ?_
            have e0 : a_least T (nI j) = (nI (v)) := by unfold a_least; rw [if_pos hr_j, cl_j, sF_at (v := v) (by unfold leastB; rw [← eav]; exact c_6) hno (by omega)]; rfl
            rw [e0] at hQ
            try dsimp only at hQ
            exact hQ _ ⟨((hshM_5 (0) (by omega)).trans ((va_up_ne _ _ (by decide)).trans ((hs1 (0) (by omega)).trans hB))), ⟨((hshM_5 (1) (by omega)).trans ((va_up_ne _ _ (by decide)).trans ((hs1 (1) (by omega)).trans hT.1))), ((hshM_5 (2) (by omega)).trans ((va_up_ne _ _ (by decide)).trans ((hs1 (2) (by omega)).trans hT.2.1))), ((hshM_5 (3) (by omega)).trans ((va_up_ne _ _ (by decide)).trans ((hs1 (3) (by omega)).trans hT.2.2.1))), ((hshM_5 (4) (by omega)).trans ((va_up_ne _ _ (by decide)).trans ((hs1 (4) (by omega)).trans hT.2.2.2)))⟩, hok, ⟨((T.1, ad1, T.2.2).1, upN ((T.1, ad1, T.2.2).2.1) (j) (v), (T.1, ad1, T.2.2).2.2.1, (T.1, ad1, T.2.2).2.2.2.1, (T.1, ad1, T.2.2).2.2.2.2.1, (T.1, ad1, T.2.2).2.2.2.2.2.1, (T.1, ad1, T.2.2).2.2.2.2.2.2), ⟨((hshM_5 (5) (by omega)).trans ((va_up_ne _ _ (by decide)).trans hV1.1)), ((hshM_5 (6) (by omega)).trans ((va_up_ne _ _ (by decide)).trans hV1.2.1)), ((hshM_5 (7) (by omega)).trans (va_up_self _ _ _)), ((hshM_5 (8) (by omega)).trans ((va_up_ne _ _ (by decide)).trans hV1.2.2.2))⟩⟩, ⟨_, _, _, ⟨hMhM_5.1, hMhM_5.2.1, hMhM_5.2.2⟩, hphM_5⟩, (((hP.kp (kp_sm hs1 (by omega))).kp (kp_up (by omega))).kp (kp_sm hshM_5 (by omega))), (((hS.kp (kp_sm hs1 (by omega))).kp (kp_up (by omega))).kp (kp_sm hshM_5 (by omega))), (((hG.kp (kp_sm hs1 (by omega))).kp (kp_up (by omega))).kp (kp_sm hshM_5 (by omega))), (((hI.kp (kp_sm hs1 (by omega))).kp (kp_up (by omega))).kp (kp_sm hshM_5 (by omega))), ((hshM_5 (39) (by omega)).trans ((va_up_ne _ _ (by decide)).trans ((hs1 (39) (by omega)).trans hK))), (((hH.kp (kp_sm hs1 (by omega))).kp (kp_up (by omega))).kp (kp_sm hshM_5 (by omega)))⟩ (((sm.rf.tr (hs1.mono (by omega) (by omega))).up (by omega) (by omega)).tr (hshM_5.mono (by omega) (by omega)))
    refine w_lv (lv2 := [(0, .ref (gb_ad G 0)), (1, .int (nI (j))), (2, .int (nI 0))]) [1, 2, 0] rfl ?_
    exact LL _ 0 _ T.2.1 pa am w rfl (by omega) (fun c hc => absurd hc (Nat.not_lt_zero c)) ⟨hThM_3.1, hThM_3.2.1, hThM_3.2.2.1, hThM_3.2.2.2⟩ (fun _ _ => rfl) ⟨((hshM_3 (9) (by omega)).trans hM.1), ((hshM_3 (10) (by omega)).trans hM.2.1), ((hshM_3 (11) (by omega)).trans hM.2.2)⟩ hp (sm.rf.tr (hshM_3.mono (by omega) (by omega)))
  · skip
    refine w_iconst (n := 10) O dX6_least_9 (v := (-1)) (by decide) rfl ?_
    refine w_iret O dX6_least_10 ?_
    have e0 : a_least T x = -1 := by unfold a_least; rw [if_neg (by rw [c_2]; decide)]
    rw [e0] at hQ
    try dsimp only at hQ
    exact hQ _ ⟨hB, ⟨hT.1, hT.2.1, hT.2.2.1, hT.2.2.2⟩, hok, ⟨U, ⟨hU.1, hU.2.1, hU.2.2.1, hU.2.2.2⟩⟩, ⟨_, _, _, ⟨hM.1, hM.2.1, hM.2.2⟩, hp⟩, hP, hS, hG, hI, hK, hH⟩ sm.rf
set_option maxRecDepth 100000 in
set_option maxHeartbeats 4000000 in
theorem f_X6_lasts {G : gb_G} (hW : gW G) {Q : Option Value → gb_M → Prop} {mM : gb_M} {T : Tw} {im : Nat → Tw} {kp : Nat → Bool} {bs : Nat → Nat} {ln fa : Nat} {st sf : Nat → Nat} {sn : Nat} {sh : Sh} {sc : Nat → Nat → Int32} {tn : Nat} (hC : isCW G mM T im kp bs ln fa st sf sn sh sc tn)  (hQ : ∀ M', isCW G M' T im kp bs ln fa st sf sn sh sc tn → sm mM M' 0 48 → Q (some (.int (a_lasts T))) M') : Fn G 7 yX6_lasts cX6_lasts 2 (some .int) [.ref (gb_ad G 0)] mM Q := by
  obtain ⟨hB, hT, hok, hU, hMx, hP, hS, hG, hI, hK, hH⟩ := hC
  have ok := hok.1
  have hn4 := ok.1
  have hst9 := hok.2.1
  have hln := hok.2.2.2.1
  have hsn6 := hok.2.2.2.2.2.2.1
  obtain ⟨U, hU⟩ := hU
  obtain ⟨pa, am, w, hM, hp⟩ := hMx
  have hN := hW.2.2.1
  refine Fn.of hW.1 [(0, .ref (gb_ad G 0))] (by decide) (Nat.le_of_ble_eq_true rfl) rfl ?_
  intro X O
  refine w_aload_n (n := 1) O dX6_lasts_0 rfl rfl rfl ?_
  refine w_getf (n := 4) O 1 dX6_lasts_1 (by omega) hB rfl (by decide) uX6 uf_X6_16 rfl rfl ?_
  refine w_aload_n (n := 5) O dX6_lasts_4 rfl rfl rfl ?_
  refine w_getf (n := 8) O 0 dX6_lasts_5 (by omega) hB rfl (by decide) uX6 uf_X6_10 rfl rfl ?_
  refine w_cV (n := 11) (ro := none) (R := fun mM' => isT G mM' (5) T ∧ sm mM mM' (5) (5 + 3)) (st := []) (st1 := []) (As := [.ref (gb_ad G 1)]) (b := 5) O dX6_lasts_8 ul_X6_87 um_X5_becomes (f_X5_becomes (T := U) (U := T) hW ⟨hU.1, hU.2.1, hU.2.2.1, hU.2.2.2⟩ (by omega) ⟨hT.1, hT.2.1, hT.2.2.1, hT.2.2.2⟩ (by omega) (by omega) (fun M' h1 h2 => ⟨rfl, h1, h2⟩)) rfl (by omega) hU.1 rfl rfl rfl rfl (by omega) (Nat.le_of_ble_eq_true rfl) rfl (fun mhM_1 hM_1 => ?_)
  obtain ⟨hThM_1, hshM_1⟩ := hM_1
  refine w_iconst (n := 12) O dX6_lasts_11 (v := (nI 0)) (by decide) rfl ?_
  refine w_istore_n (n := 13) (lv' := [(1, .int (nI 0)), (0, .ref (gb_ad G 0))]) O dX6_lasts_12 rfl (by decide) rfl rfl ?_
  have LL : ∀ (k : Nat) (t : Nat) (m1 : gb_M) (pa1 am1 : Nat → Nat) (w1 : Nat), 501 - t = k → t ≤ 501 → (∀ c, c < t → (!tTrue (rep tStrike c T)) = false) → isT G m1 5 (rep tStrike t T) → isM G m1 pa1 am1 w1 → okP pa1 → sm mM m1 5 11 → Wm G X 2 Q 13 [(0, .ref (gb_ad G 0)), (1, .int (nI (t)))] [] m1 := by
    intro k
    induction k using Nat.strongRecOn with
    | ind k ih_LL =>
      intro t m1 pa1 am1 w1 hk ht hno hV1 hM1 hp1 hs1
      have okv := okT_rep ok t (by omega)
      have hkv := (rep_sk T t).1
      refine w_iload_n (n := 14) O dX6_lasts_13 rfl rfl rfl ?_
      refine w_sipush (n := 17) O dX6_lasts_14 (v := (nI 500)) (by decide) rfl ?_
      refine w_icmp_gtN (n := 20) (tgt := 47) O dX6_lasts_17 (by omega) (by omega) (by decide) rfl (fun c_2 => ?_) (fun c_2 => ?_)
      · skip
        refine w_bipush (n := 49) O dX6_lasts_47 (v := (-4)) (by decide) rfl ?_
        refine w_iret O dX6_lasts_49 ?_
        have e0 : a_lasts T = (-4) := by unfold a_lasts; rw [sF_none (fun c hc => hno c (by omega))]; rfl
        rw [e0] at hQ
        try dsimp only at hQ
        exact hQ _ ⟨((hs1 (0) (by omega)).trans hB), ⟨((hs1 (1) (by omega)).trans hT.1), ((hs1 (2) (by omega)).trans hT.2.1), ((hs1 (3) (by omega)).trans hT.2.2.1), ((hs1 (4) (by omega)).trans hT.2.2.2)⟩, hok, ⟨(rep tStrike t T), ⟨hV1.1, hV1.2.1, hV1.2.2.1, hV1.2.2.2⟩⟩, ⟨_, _, _, ⟨hM1.1, hM1.2.1, hM1.2.2⟩, hp1⟩, (hP.kp (kp_sm hs1 (by omega))), (hS.kp (kp_sm hs1 (by omega))), (hG.kp (kp_sm hs1 (by omega))), (hI.kp (kp_sm hs1 (by omega))), ((hs1 (39) (by omega)).trans hK), (hH.kp (kp_sm hs1 (by omega)))⟩ (sm.rf.tr (hs1.mono (by omega) (by omega)))
      · skip
        refine w_aload_n (n := 21) O dX6_lasts_20 rfl rfl rfl ?_
        refine w_aload_n (n := 22) O dX6_lasts_21 rfl rfl rfl ?_
        refine w_getf (n := 25) O 1 dX6_lasts_22 (by omega) ((hs1 (0) (by omega)).trans hB) rfl (by decide) uX6 uf_X6_16 rfl rfl ?_
        refine w_cV (n := 28) (ro := some (.int (bI (tTrue ((rep tStrike t T)))))) (R := fun mM' => ∃ pa' : Nat → Nat, isM G mM' pa' (bAm ((rep tStrike t T))) (bWt ((rep tStrike t T))) ∧ (∀ g, g < ((rep tStrike t T)).2.2.2.1 → pa' g = tGives ((rep tStrike t T)) g) ∧ okP pa' ∧ sm m1 mM' 9 11) (st := []) (st1 := [.int (bI (tTrue ((rep tStrike t T))))]) (As := [.ref (gb_ad G 5)]) (b := 0) O dX6_lasts_25 ul_X6_175 um_X6_castsTrue (f_X6_castsTrue (T := (rep tStrike t T)) hW ((hs1 (0) (by omega)).trans hB) ⟨hV1.1, hV1.2.1, hV1.2.2.1, hV1.2.2.2⟩ (by omega) okv (by omega) ⟨hM1.1, hM1.2.1, hM1.2.2⟩ hp1 (fun M' pa' h1 h2 h3 h4 => ⟨rfl, pa', h1, h2, h3, h4⟩)) rfl (by omega) ((hs1 (0) (by omega)).trans hB) rfl rfl rfl rfl (by decide) (Nat.le_of_ble_eq_true rfl) rfl (fun mhM_3 hM_3 => ?_)
        obtain ⟨pahM_3, hMhM_3, hghM_3, hphM_3, hshM_3⟩ := hM_3
        refine w_if_neB (n := 31) (tgt := 33) O dX6_lasts_28 (by decide) rfl (fun c_4 => ?_) (fun c_4 => ?_)
        · skip
          refine w_aload_n (n := 34) O dX6_lasts_33 rfl rfl rfl ?_
          refine w_aload_n (n := 35) O dX6_lasts_34 rfl rfl rfl ?_
          refine w_getf (n := 38) O 1 dX6_lasts_35 (by omega) ((hshM_3 (0) (by omega)).trans ((hs1 (0) (by omega)).trans hB)) rfl (by decide) uX6 uf_X6_16 rfl rfl ?_
          refine w_cV (n := 41) (ro := none) (R := fun mM' => isT G mM' (5) (tStrike ((rep tStrike t T))) ∧ isMx G mM' ∧ sm2 mhM_3 mM' (5) (5 + 3) 9 11) (st := []) (st1 := []) (As := [.ref (gb_ad G 5)]) (b := 0) O dX6_lasts_38 ul_X6_166 um_X6_strikeOnce (f_X6_strikeOnce (T := (rep tStrike t T)) hW ((hshM_3 (0) (by omega)).trans ((hs1 (0) (by omega)).trans hB)) ⟨((hshM_3 (5) (by omega)).trans hV1.1), ((hshM_3 (6) (by omega)).trans hV1.2.1), ((hshM_3 (7) (by omega)).trans hV1.2.2.1), ((hshM_3 (8) (by omega)).trans hV1.2.2.2)⟩ (by omega) okv (by omega) ⟨hMhM_3.1, hMhM_3.2.1, hMhM_3.2.2⟩ hphM_3 (by omega) (fun M' h1 h2 h3 => ⟨rfl, h1, h2, h3⟩)) rfl (by omega) ((hshM_3 (0) (by omega)).trans ((hs1 (0) (by omega)).trans hB)) rfl rfl rfl rfl (by decide) (Nat.le_of_ble_eq_true rfl) rfl (fun mhM_5 hM_5 => ?_)
          obtain ⟨hThM_5, ⟨pahM_5, amhM_5, whM_5, hMhM_5, hphM_5⟩, hshM_5⟩ := hM_5
          refine w_iincN (n := 44) (lv' := [(1, .int (nI (t + 1))), (0, .ref (gb_ad G 0))]) O dX6_lasts_41 rfl (by decide) rfl rfl ?_
          refine w_goto (tgt := 13) O dX6_lasts_44 (by decide) ?_
          refine w_lv (lv2 := [(0, .ref (gb_ad G 0)), (1, .int (nI (t + 1)))]) [1, 0] rfl ?_
          exact ih_LL _ (by omega) (t + 1) _ _ _ _ rfl (by omega) (fun c hc => by rcases Nat.lt_or_ge c t with q | q; exact hno c q; rw [show c = t by omega, c_4]; rfl) (by rw [rep_succ]; exact ⟨hThM_5.1, hThM_5.2.1, hThM_5.2.2.1, hThM_5.2.2.2⟩) ⟨hMhM_5.1, hMhM_5.2.1, hMhM_5.2.2⟩ hphM_5 (((sm.rf.tr (hs1.mono (by omega) (by omega))).tr (hshM_3.mono (by omega) (by omega))).tr (hshM_5.one (by omega)))
        · skip
          refine w_iload_n (n := 32) O dX6_lasts_31 rfl rfl rfl ?_
          refine w_iret O dX6_lasts_32 ?_
          have e0 : a_lasts T = (nI (t)) := by unfold a_lasts; rw [sF_at (v := t) (by show (!tTrue (rep tStrike t T)) = true; rw [c_4]; rfl) hno (by omega)]; rfl
          rw [e0] at hQ
          try dsimp only at hQ
          exact hQ _ ⟨((hshM_3 (0) (by omega)).trans ((hs1 (0) (by omega)).trans hB)), ⟨((hshM_3 (1) (by omega)).trans ((hs1 (1) (by omega)).trans hT.1)), ((hshM_3 (2) (by omega)).trans ((hs1 (2) (by omega)).trans hT.2.1)), ((hshM_3 (3) (by omega)).trans ((hs1 (3) (by omega)).trans hT.2.2.1)), ((hshM_3 (4) (by omega)).trans ((hs1 (4) (by omega)).trans hT.2.2.2))⟩, hok, ⟨(rep tStrike t T), ⟨((hshM_3 (5) (by omega)).trans hV1.1), ((hshM_3 (6) (by omega)).trans hV1.2.1), ((hshM_3 (7) (by omega)).trans hV1.2.2.1), ((hshM_3 (8) (by omega)).trans hV1.2.2.2)⟩⟩, ⟨_, _, _, ⟨hMhM_3.1, hMhM_3.2.1, hMhM_3.2.2⟩, hphM_3⟩, ((hP.kp (kp_sm hs1 (by omega))).kp (kp_sm hshM_3 (by omega))), ((hS.kp (kp_sm hs1 (by omega))).kp (kp_sm hshM_3 (by omega))), ((hG.kp (kp_sm hs1 (by omega))).kp (kp_sm hshM_3 (by omega))), ((hI.kp (kp_sm hs1 (by omega))).kp (kp_sm hshM_3 (by omega))), ((hshM_3 (39) (by omega)).trans ((hs1 (39) (by omega)).trans hK)), ((hH.kp (kp_sm hs1 (by omega))).kp (kp_sm hshM_3 (by omega)))⟩ ((sm.rf.tr (hs1.mono (by omega) (by omega))).tr (hshM_3.mono (by omega) (by omega)))
  refine w_lv (lv2 := [(0, .ref (gb_ad G 0)), (1, .int (nI 0))]) [1, 0] rfl ?_
  exact LL _ 0 _ pa am w rfl (by omega) (fun c hc => absurd hc (Nat.not_lt_zero c)) ⟨hThM_1.1, hThM_1.2.1, hThM_1.2.2.1, hThM_1.2.2.2⟩ ⟨((hshM_1 (9) (by omega)).trans hM.1), ((hshM_1 (10) (by omega)).trans hM.2.1), ((hshM_1 (11) (by omega)).trans hM.2.2)⟩ hp (sm.rf.tr (hshM_1.mono (by omega) (by omega)))
