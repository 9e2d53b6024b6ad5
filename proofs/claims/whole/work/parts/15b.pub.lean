set_option maxRecDepth 100000 in
set_option maxHeartbeats 4000000 in
theorem f_X6_rule {G : gb_G} (hW : gW G) {Q : Option Value → gb_M → Prop} {mM : gb_M} {T : Tw} {im : Nat → Tw} {kp : Nat → Bool} {bs : Nat → Nat} {ln fa : Nat} {st sf : Nat → Nat} {sn : Nat} {sh : Sh} {sc : Nat → Nat → Int32} {tn : Nat} (hC : isCW G mM T im kp bs ln fa st sf sn sh sc tn) {x : Int32}  (hQ : ∀ M', isCW G M' T im kp bs ln fa st sf sn sh sc tn → sm mM M' 0 48 → Q (some (.int (a_rule T x))) M') : Fn G 2 yX6_rule cX6_rule 2 (some .int) [.ref (gb_ad G 0), .int (x)] mM Q := by
  obtain ⟨hB, hT, hok, hU, hMx, hP, hS, hG, hI, hK, hH⟩ := hC
  have ok := hok.1
  have hn4 := ok.1
  have hst9 := hok.2.1
  have hln := hok.2.2.2.1
  have hsn6 := hok.2.2.2.2.2.2.1
  have hN := hW.2.2.1
  refine Fn.of hW.1 [(0, .ref (gb_ad G 0)), (1, .int (x))] (by decide) (Nat.le_of_ble_eq_true rfl) rfl ?_
  intro X O
  refine w_iload_n (n := 1) O dX6_rule_0 rfl rfl rfl ?_
  rcases sw_in x 5 (by decide) with ⟨wsw_1, hwsw_1, hxsw_1⟩ | sw_1
  · rcases (show wsw_1 = 0 ∨ wsw_1 = 1 ∨ wsw_1 = 2 ∨ wsw_1 = 3 ∨ wsw_1 = 4 ∨ wsw_1 = 5 by omega) with rfl | rfl | rfl | rfl | rfl | rfl
    · skip
      subst hxsw_1
      refine w_tableIn (tgt := 40) O dX6_rule_1 (by decide) (by decide) rfl (by decide) ?_
      refine w_aload_n (n := 41) O dX6_rule_40 rfl rfl rfl ?_
      refine w_getf (n := 44) O 0 dX6_rule_41 (by omega) hB rfl (by decide) uX6 uf_X6_10 rfl rfl ?_
      refine w_getf (n := 47) O 3 dX6_rule_44 (by omega) hT.1 rfl (by decide) uX5 uf_X6_94 rfl rfl ?_
      refine w_iret O dX6_rule_47 ?_
      have e0 : a_rule T (nI 0) = (nI (T.2.2.2.1)) := by unfold a_rule; rw [if_pos rfl]
      rw [e0] at hQ
      try dsimp only at hQ
      exact hQ _ ⟨hB, ⟨hT.1, hT.2.1, hT.2.2.1, hT.2.2.2⟩, hok, hU, hMx, hP, hS, hG, hI, hK, hH⟩ sm.rf
    · skip
      subst hxsw_1
      refine w_tableIn (tgt := 48) O dX6_rule_1 (by decide) (by decide) rfl (by decide) ?_
      refine w_aload_n (n := 49) O dX6_rule_48 rfl rfl rfl ?_
      refine w_getf (n := 52) O 0 dX6_rule_49 (by omega) hB rfl (by decide) uX6 uf_X6_10 rfl rfl ?_
      refine w_getf (n := 55) O 4 dX6_rule_52 (by omega) hT.1 rfl (by decide) uX5 uf_X6_97 rfl rfl ?_
      refine w_iret O dX6_rule_55 ?_
      have e0 : a_rule T (nI 1) = (nI (T.2.2.2.2.1)) := by unfold a_rule; rw [if_neg (by decide), if_pos rfl]
      rw [e0] at hQ
      try dsimp only at hQ
      exact hQ _ ⟨hB, ⟨hT.1, hT.2.1, hT.2.2.1, hT.2.2.2⟩, hok, hU, hMx, hP, hS, hG, hI, hK, hH⟩ sm.rf
    · skip
      subst hxsw_1
      refine w_tableIn (tgt := 56) O dX6_rule_1 (by decide) (by decide) rfl (by decide) ?_
      refine w_aload_n (n := 57) O dX6_rule_56 rfl rfl rfl ?_
      refine w_getf (n := 60) O 0 dX6_rule_57 (by omega) hB rfl (by decide) uX6 uf_X6_10 rfl rfl ?_
      refine w_getf (n := 63) O 5 dX6_rule_60 (by omega) hT.1 rfl (by decide) uX5 uf_X6_100 rfl rfl ?_
      refine w_iret O dX6_rule_63 ?_
      have e0 : a_rule T (nI 2) = (nI (T.2.2.2.2.2.1)) := by unfold a_rule; rw [if_neg (by decide), if_neg (by decide), if_pos rfl]
      rw [e0] at hQ
      try dsimp only at hQ
      exact hQ _ ⟨hB, ⟨hT.1, hT.2.1, hT.2.2.1, hT.2.2.2⟩, hok, hU, hMx, hP, hS, hG, hI, hK, hH⟩ sm.rf
    · skip
      subst hxsw_1
      refine w_tableIn (tgt := 64) O dX6_rule_1 (by decide) (by decide) rfl (by decide) ?_
      refine w_aload_n (n := 65) O dX6_rule_64 rfl rfl rfl ?_
      refine w_getf (n := 68) O 0 dX6_rule_65 (by omega) hB rfl (by decide) uX6 uf_X6_10 rfl rfl ?_
      refine w_getf (n := 71) O 6 dX6_rule_68 (by omega) hT.1 rfl (by decide) uX5 uf_X6_103 rfl rfl ?_
      refine w_iret O dX6_rule_71 ?_
      have e0 : a_rule T (nI 3) = (nI (T.2.2.2.2.2.2)) := by unfold a_rule; rw [if_neg (by decide), if_neg (by decide), if_neg (by decide), if_pos rfl]
      rw [e0] at hQ
      try dsimp only at hQ
      exact hQ _ ⟨hB, ⟨hT.1, hT.2.1, hT.2.2.1, hT.2.2.2⟩, hok, hU, hMx, hP, hS, hG, hI, hK, hH⟩ sm.rf
    · skip
      subst hxsw_1
      refine w_tableIn (tgt := 72) O dX6_rule_1 (by decide) (by decide) rfl (by decide) ?_
      refine w_aload_n (n := 73) O dX6_rule_72 rfl rfl rfl ?_
      refine w_getf (n := 76) O 0 dX6_rule_73 (by omega) hB rfl (by decide) uX6 uf_X6_10 rfl rfl ?_
      refine w_iconst (n := 77) O dX6_rule_76 (v := (nI 4)) (by decide) rfl ?_
      refine w_cV (n := 80) (ro := some (.int (nI (sBits (fun g => decide (0 < T.1 (g * 6 + 4))) T.2.2.2.1)))) (R := fun mM' => mM = mM') (st := []) (st1 := [.int (nI (sBits (fun g => decide (0 < T.1 (g * 6 + 4))) T.2.2.2.1))]) (As := [.int (nI 4)]) (b := 1) O dX6_rule_77 ul_X6_106 um_X5_whoHas (f_X5_whoHas (T := T) hW ⟨hT.1, hT.2.1, hT.2.2.1, hT.2.2.2⟩ (by omega) ok (by omega) (fun g hg => by have := ok.2.1 g hg; omega) ⟨rfl, rfl⟩) rfl (by omega) hT.1 rfl rfl rfl rfl (by decide) (Nat.le_of_ble_eq_true rfl) rfl (fun mhM_2 hM_2 => ?_)
      subst hM_2
      refine w_iret O dX6_rule_80 ?_
      have e0 : a_rule T (nI 4) = (nI (sBits (fun g => decide (0 < T.1 (g * 6 + 4))) T.2.2.2.1)) := by unfold a_rule; rw [if_neg (by decide), if_neg (by decide), if_neg (by decide), if_neg (by decide), if_pos rfl]
      rw [e0] at hQ
      try dsimp only at hQ
      exact hQ _ ⟨hB, ⟨hT.1, hT.2.1, hT.2.2.1, hT.2.2.2⟩, hok, hU, hMx, hP, hS, hG, hI, hK, hH⟩ sm.rf
    · skip
      subst hxsw_1
      refine w_tableIn (tgt := 81) O dX6_rule_1 (by decide) (by decide) rfl (by decide) ?_
      refine w_aload_n (n := 82) O dX6_rule_81 rfl rfl rfl ?_
      refine w_getf (n := 85) O 0 dX6_rule_82 (by omega) hB rfl (by decide) uX6 uf_X6_10 rfl rfl ?_
      refine w_iconst (n := 86) O dX6_rule_85 (v := (nI 5)) (by decide) rfl ?_
      refine w_cV (n := 89) (ro := some (.int (nI (sBits (fun g => decide (0 < T.1 (g * 6 + 5))) T.2.2.2.1)))) (R := fun mM' => mM = mM') (st := []) (st1 := [.int (nI (sBits (fun g => decide (0 < T.1 (g * 6 + 5))) T.2.2.2.1))]) (As := [.int (nI 5)]) (b := 1) O dX6_rule_86 ul_X6_106 um_X5_whoHas (f_X5_whoHas (T := T) hW ⟨hT.1, hT.2.1, hT.2.2.1, hT.2.2.2⟩ (by omega) ok (by omega) (fun g hg => by have := ok.2.1 g hg; omega) ⟨rfl, rfl⟩) rfl (by omega) hT.1 rfl rfl rfl rfl (by decide) (Nat.le_of_ble_eq_true rfl) rfl (fun mhM_3 hM_3 => ?_)
      subst hM_3
      refine w_iret O dX6_rule_89 ?_
      have e0 : a_rule T (nI 5) = (nI (sBits (fun g => decide (0 < T.1 (g * 6 + 5))) T.2.2.2.1)) := by unfold a_rule; rw [if_neg (by decide), if_neg (by decide), if_neg (by decide), if_neg (by decide), if_neg (by decide), if_pos rfl]
      rw [e0] at hQ
      try dsimp only at hQ
      exact hQ _ ⟨hB, ⟨hT.1, hT.2.1, hT.2.2.1, hT.2.2.2⟩, hok, hU, hMx, hP, hS, hG, hI, hK, hH⟩ sm.rf
  · skip
    refine w_tableOut (tgt := 90) O dX6_rule_1 (by first | exact sw_1 | omega) (by decide) ?_
    refine w_iconst (n := 91) O dX6_rule_90 (v := (-1)) (by decide) rfl ?_
    refine w_iret O dX6_rule_91 ?_
    have e0 : a_rule T x = (-1) := by unfold a_rule; rw [if_neg (fun e => by rw [e] at sw_1; revert sw_1; decide), if_neg (fun e => by rw [e] at sw_1; revert sw_1; decide), if_neg (fun e => by rw [e] at sw_1; revert sw_1; decide), if_neg (fun e => by rw [e] at sw_1; revert sw_1; decide), if_neg (fun e => by rw [e] at sw_1; revert sw_1; decide), if_neg (fun e => by rw [e] at sw_1; revert sw_1; decide)]
    rw [e0] at hQ
    try dsimp only at hQ
    exact hQ _ ⟨hB, ⟨hT.1, hT.2.1, hT.2.2.1, hT.2.2.2⟩, hok, hU, hMx, hP, hS, hG, hI, hK, hH⟩ sm.rf
set_option maxRecDepth 100000 in
set_option maxHeartbeats 4000000 in
theorem f_X6_giver {G : gb_G} (hW : gW G) {Q : Option Value → gb_M → Prop} {mM : gb_M} {T : Tw} {im : Nat → Tw} {kp : Nat → Bool} {bs : Nat → Nat} {ln fa : Nat} {st sf : Nat → Nat} {sn : Nat} {sh : Sh} {sc : Nat → Nat → Int32} {tn : Nat} (hC : isCW G mM T im kp bs ln fa st sf sn sh sc tn) {g x : Int32}  (hQ : ∀ M', isCW G M' T im kp bs ln fa st sf sn sh sc tn → sm mM M' 0 48 → Q (some (.int (a_giver T g x))) M') : Fn G 4 yX6_giver cX6_giver 3 (some .int) [.ref (gb_ad G 0), .int (g), .int (x)] mM Q := by
  obtain ⟨hB, hT, hok, hU, hMx, hP, hS, hG, hI, hK, hH⟩ := hC
  have ok := hok.1
  have hn4 := ok.1
  have hst9 := hok.2.1
  have hln := hok.2.2.2.1
  have hsn6 := hok.2.2.2.2.2.2.1
  have hN := hW.2.2.1
  refine Fn.of hW.1 [(0, .ref (gb_ad G 0)), (1, .int (g)), (2, .int (x))] (by decide) (Nat.le_of_ble_eq_true rfl) rfl ?_
  intro X O
  refine w_aload_n (n := 1) O dX6_giver_0 rfl rfl rfl ?_
  refine w_iload_n (n := 2) O dX6_giver_1 rfl rfl rfl ?_
  refine w_cV (n := 5) (ro := some (.int (bI (isGv (g) T.2.2.2.1)))) (R := fun mM' => mM = mM') (st := []) (st1 := [.int (bI (isGv (g) T.2.2.2.1))]) (As := [.int (g)]) (b := 0) O dX6_giver_2 ul_X6_110 um_X6_isGiver (f_X6_isGiver (T := T) hW hB ⟨hT.1, hT.2.1, hT.2.2.1, hT.2.2.2⟩ ok ⟨rfl, rfl⟩) rfl (by omega) hB rfl rfl rfl rfl (by decide) (Nat.le_of_ble_eq_true rfl) rfl (fun mhM_1 hM_1 => ?_)
  subst hM_1
  refine w_if_neB (n := 8) (tgt := 10) O dX6_giver_5 (by decide) rfl (fun c_2 => ?_) (fun c_2 => ?_)
  · skip
    have hr_j := c_2
    obtain ⟨j, ja, rfl⟩ := isGv_t (by omega) c_2
    have cl_j : (nI j).toNatClampNeg = j := nI_clamp (by omega)
    refine w_iload_n (n := 11) O dX6_giver_10 rfl rfl rfl ?_
    refine w_iconst (n := 12) O dX6_giver_11 (v := (nI 0)) (by decide) rfl ?_
    refine w_iconst (n := 13) O dX6_giver_12 (v := (nI 5)) (by decide) rfl ?_
    refine w_cS (n := 16) (ro := some (.int (bI (wIn (x) (nI (0)) (nI (5)))))) (R := fun mM' => mM = mM') (st := []) (st1 := [.int (bI (wIn (x) (nI (0)) (nI (5))))]) (As := [.int (x), .int (nI 0), .int (nI 5)]) O dX6_giver_13 ul_X6_66 um_X6_within (f_X6_within hW ⟨rfl, rfl⟩) rfl rfl rfl (by decide) (Nat.le_of_ble_eq_true rfl) rfl (fun mhM_3 hM_3 => ?_)
    subst hM_3
    refine w_if_eqB (n := 19) (tgt := 29) O dX6_giver_16 (by decide) rfl (fun c_4 => ?_) (fun c_4 => ?_)
    · skip
      refine w_iload_n (n := 30) O dX6_giver_29 rfl rfl rfl ?_
      refine w_bipush (n := 32) O dX6_giver_30 (v := (nI 6)) (by decide) rfl ?_
      refine w_icmp_ne (n := 35) (tgt := 44) O dX6_giver_32 (by decide) rfl (fun c_5 => ?_) (fun c_5 => ?_)
      · skip
        refine w_iload_n (n := 45) O dX6_giver_44 rfl rfl rfl ?_
        refine w_bipush (n := 47) O dX6_giver_45 (v := (nI 7)) (by decide) rfl ?_
        refine w_icmp_ne (n := 50) (tgt := 61) O dX6_giver_47 (by decide) rfl (fun c_6 => ?_) (fun c_6 => ?_)
        · skip
          refine w_iconst (n := 62) O dX6_giver_61 (v := (-1)) (by decide) rfl ?_
          refine w_iret O dX6_giver_62 ?_
          have e0 : a_giver T (nI j) x = (-1) := by unfold a_giver; rw [if_pos hr_j, if_neg (by rw [c_4]; decide), if_neg c_5, if_neg c_6]
          rw [e0] at hQ
          try dsimp only at hQ
          exact hQ _ ⟨hB, ⟨hT.1, hT.2.1, hT.2.2.1, hT.2.2.2⟩, hok, hU, hMx, hP, hS, hG, hI, hK, hH⟩ sm.rf
        · skip
          refine w_aload_n (n := 51) O dX6_giver_50 rfl rfl rfl ?_
          refine w_getf (n := 54) O 0 dX6_giver_51 (by omega) hB rfl (by decide) uX6 uf_X6_10 rfl rfl ?_
          refine w_iload_n (n := 55) O dX6_giver_54 rfl rfl rfl ?_
          refine w_cV (n := 58) (ro := some (.int (nI (tGives T (j))))) (R := fun mM' => mM = mM') (st := []) (st1 := [.int (nI (tGives T (j)))]) (As := [.int (nI (j))]) (b := 1) O dX6_giver_55 ul_X6_121 um_X5_gives (f_X5_gives (T := T) hW ⟨hT.1, hT.2.1, hT.2.2.1, hT.2.2.2⟩ (by omega) ok (by omega) ⟨rfl, rfl⟩) rfl (by omega) hT.1 rfl rfl rfl rfl (by decide) (Nat.le_of_ble_eq_true rfl) rfl (fun mhM_7 hM_7 => ?_)
          subst hM_7
          refine w_goto (tgt := 62) O dX6_giver_58 (by decide) ?_
          refine w_iret O dX6_giver_62 ?_
          have e0 : a_giver T (nI j) x = (nI (tGives T (j))) := by unfold a_giver; rw [if_pos hr_j, if_neg (by rw [c_4]; decide), if_neg c_5, if_pos c_6, cl_j]
          rw [e0] at hQ
          try dsimp only at hQ
          exact hQ _ ⟨hB, ⟨hT.1, hT.2.1, hT.2.2.1, hT.2.2.2⟩, hok, hU, hMx, hP, hS, hG, hI, hK, hH⟩ sm.rf
      · skip
        refine w_aload_n (n := 36) O dX6_giver_35 rfl rfl rfl ?_
        refine w_getf (n := 39) O 0 dX6_giver_36 (by omega) hB rfl (by decide) uX6 uf_X6_10 rfl rfl ?_
        refine w_iload_n (n := 40) O dX6_giver_39 rfl rfl rfl ?_
        refine w_cV (n := 43) (ro := some (.int (nI (tOwes T (j))))) (R := fun mM' => mM = mM') (st := []) (st1 := [.int (nI (tOwes T (j)))]) (As := [.int (nI (j))]) (b := 1) O dX6_giver_40 ul_X6_118 um_X5_owes (f_X5_owes (T := T) hW ⟨hT.1, hT.2.1, hT.2.2.1, hT.2.2.2⟩ (by omega) ok (by omega) ⟨rfl, rfl⟩) rfl (by omega) hT.1 rfl rfl rfl rfl (by decide) (Nat.le_of_ble_eq_true rfl) rfl (fun mhM_8 hM_8 => ?_)
        subst hM_8
        refine w_iret O dX6_giver_43 ?_
        have e0 : a_giver T (nI j) x = (nI (tOwes T (j))) := by unfold a_giver; rw [if_pos hr_j, if_neg (by rw [c_4]; decide), if_pos c_5, cl_j]
        rw [e0] at hQ
        try dsimp only at hQ
        exact hQ _ ⟨hB, ⟨hT.1, hT.2.1, hT.2.2.1, hT.2.2.2⟩, hok, hU, hMx, hP, hS, hG, hI, hK, hH⟩ sm.rf
    · skip
      have hr_k := c_4
      obtain ⟨k, ka, kb, rfl⟩ := wIn_t (by omega) c_4 (by omega)
      have cl_k : (nI k).toNatClampNeg = k := nI_clamp (by omega)
      refine w_aload_n (n := 20) O dX6_giver_19 rfl rfl rfl ?_
      refine w_getf (n := 23) O 0 dX6_giver_20 (by omega) hB rfl (by decide) uX6 uf_X6_10 rfl rfl ?_
      refine w_iload_n (n := 24) O dX6_giver_23 rfl rfl rfl ?_
      refine w_iload_n (n := 25) O dX6_giver_24 rfl rfl rfl ?_
      refine w_cV (n := 28) (ro := some (.int (nI (T.1 (j * 6 + k))))) (R := fun mM' => mM = mM') (st := []) (st1 := [.int (nI (T.1 (j * 6 + k)))]) (As := [.int (nI (j)), .int (nI (k))]) (b := 1) O dX6_giver_25 ul_X6_114 um_X5_trait (f_X5_trait (T := T) hW ⟨hT.1, hT.2.1, hT.2.2.1, hT.2.2.2⟩ (by omega) (by omega) ⟨rfl, rfl⟩) rfl (by omega) hT.1 rfl rfl rfl rfl (by decide) (Nat.le_of_ble_eq_true rfl) rfl (fun mhM_9 hM_9 => ?_)
      subst hM_9
      refine w_iret O dX6_giver_28 ?_
      have e0 : a_giver T (nI j) (nI k) = (nI (T.1 (j * 6 + k))) := by unfold a_giver; rw [if_pos hr_j, if_pos hr_k, cl_j, cl_k]
      rw [e0] at hQ
      try dsimp only at hQ
      exact hQ _ ⟨hB, ⟨hT.1, hT.2.1, hT.2.2.1, hT.2.2.2⟩, hok, hU, hMx, hP, hS, hG, hI, hK, hH⟩ sm.rf
  · skip
    refine w_iconst (n := 9) O dX6_giver_8 (v := (-1)) (by decide) rfl ?_
    refine w_iret O dX6_giver_9 ?_
    have e0 : a_giver T g x = -1 := by unfold a_giver; rw [if_neg (by rw [c_2]; decide)]
    rw [e0] at hQ
    try dsimp only at hQ
    exact hQ _ ⟨hB, ⟨hT.1, hT.2.1, hT.2.2.1, hT.2.2.2⟩, hok, hU, hMx, hP, hS, hG, hI, hK, hH⟩ sm.rf
set_option maxRecDepth 100000 in
set_option maxHeartbeats 4000000 in
theorem f_X6_metal {G : gb_G} (hW : gW G) {Q : Option Value → gb_M → Prop} {mM : gb_M} {T : Tw} {im : Nat → Tw} {kp : Nat → Bool} {bs : Nat → Nat} {ln fa : Nat} {st sf : Nat → Nat} {sn : Nat} {sh : Sh} {sc : Nat → Nat → Int32} {tn : Nat} (hC : isCW G mM T im kp bs ln fa st sf sn sh sc tn) {m x : Int32}  (hQ : ∀ M', isCW G M' T im kp bs ln fa st sf sn sh sc tn → sm mM M' 0 48 → Q (some (.int (a_metal T m x))) M') : Fn G 6 yX6_metal cX6_metal 3 (some .int) [.ref (gb_ad G 0), .int (m), .int (x)] mM Q := by
  obtain ⟨hB, hT, hok, hU, hMx, hP, hS, hG, hI, hK, hH⟩ := hC
  have ok := hok.1
  have hn4 := ok.1
  have hst9 := hok.2.1
  have hln := hok.2.2.2.1
  have hsn6 := hok.2.2.2.2.2.2.1
  obtain ⟨pa, am, w, hM, hp⟩ := hMx
  have hN := hW.2.2.1
  refine Fn.of hW.1 [(0, .ref (gb_ad G 0)), (1, .int (m)), (2, .int (x))] (by decide) (Nat.le_of_ble_eq_true rfl) rfl ?_
  intro X O
  refine w_iload_n (n := 1) O dX6_metal_0 rfl rfl rfl ?_
  refine w_iconst (n := 2) O dX6_metal_1 (v := (nI 0)) (by decide) rfl ?_
  refine w_iconst (n := 3) O dX6_metal_2 (v := (nI 3)) (by decide) rfl ?_
  refine w_cS (n := 6) (ro := some (.int (bI (wIn (m) (nI (0)) (nI (3)))))) (R := fun mM' => mM = mM') (st := []) (st1 := [.int (bI (wIn (m) (nI (0)) (nI (3))))]) (As := [.int (m), .int (nI 0), .int (nI 3)]) O dX6_metal_3 ul_X6_66 um_X6_within (f_X6_within hW ⟨rfl, rfl⟩) rfl rfl rfl (by decide) (Nat.le_of_ble_eq_true rfl) rfl (fun mhM_1 hM_1 => ?_)
  subst hM_1
  refine w_if_eqB (n := 9) (tgt := 27) O dX6_metal_6 (by decide) rfl (fun c_2 => ?_) (fun c_2 => ?_)
  · skip
    refine w_iconst (n := 28) O dX6_metal_27 (v := (-1)) (by decide) rfl ?_
    refine w_iret O dX6_metal_28 ?_
    have e0 : a_metal T m x = -1 := by unfold a_metal; rw [if_neg (fun q => by rw [c_2] at q; exact absurd q.1 (by decide))]
    rw [e0] at hQ
    try dsimp only at hQ
    exact hQ _ ⟨hB, ⟨hT.1, hT.2.1, hT.2.2.1, hT.2.2.2⟩, hok, hU, ⟨_, _, _, ⟨hM.1, hM.2.1, hM.2.2⟩, hp⟩, hP, hS, hG, hI, hK, hH⟩ sm.rf
  · skip
    have hr_k := c_2
    obtain ⟨k, ka, kb, rfl⟩ := wIn_t (by omega) c_2 (by omega)
    have cl_k : (nI k).toNatClampNeg = k := nI_clamp (by omega)
    refine w_iload_n (n := 10) O dX6_metal_9 rfl rfl rfl ?_
    refine w_iconst (n := 11) O dX6_metal_10 (v := (nI 0)) (by decide) rfl ?_
    refine w_iload_n (n := 12) O dX6_metal_11 rfl rfl rfl ?_
    refine w_iconst (n := 13) O dX6_metal_12 (v := (nI 3)) (by decide) rfl ?_
    refine w_icmp_neN (n := 16) (tgt := 20) O dX6_metal_13 (by omega) (by omega) (by decide) rfl (fun c_3 => ?_) (fun c_3 => ?_)
    · skip
      refine w_iconst (n := 21) O dX6_metal_20 (v := (nI 2)) (by decide) rfl ?_
      refine w_cS (n := 24) (ro := some (.int (bI (wIn (x) (nI (0)) (nI (2)))))) (R := fun mM' => mM = mM') (st := []) (st1 := [.int (bI (wIn (x) (nI (0)) (nI (2))))]) (As := [.int (x), .int (nI 0), .int (nI 2)]) O dX6_metal_21 ul_X6_66 um_X6_within (f_X6_within hW ⟨rfl, rfl⟩) rfl rfl rfl (by decide) (Nat.le_of_ble_eq_true rfl) rfl (fun mhM_4 hM_4 => ?_)
      subst hM_4
      refine w_if_neB (n := 27) (tgt := 29) O dX6_metal_24 (by decide) rfl (fun c_5 => ?_) (fun c_5 => ?_)
      · skip
        have hr_j := c_5
        obtain ⟨j, ja, jb, rfl⟩ := wIn_t (by omega) c_5 (by omega)
        have cl_j : (nI j).toNatClampNeg = j := nI_clamp (by omega)
        refine w_iload_n (n := 30) O dX6_metal_29 rfl rfl rfl ?_
        refine w_iconst (n := 31) O dX6_metal_30 (v := (nI 1)) (by decide) rfl ?_
        refine w_icmp_neN (n := 34) (tgt := 44) O dX6_metal_31 (by omega) (by omega) (by decide) rfl (fun c_6 => ?_) (fun c_6 => ?_)
        · skip
          refine w_iload_n (n := 45) O dX6_metal_44 rfl rfl rfl ?_
          refine w_iconst (n := 46) O dX6_metal_45 (v := (nI 2)) (by decide) rfl ?_
          refine w_icmp_neN (n := 49) (tgt := 59) O dX6_metal_46 (by omega) (by omega) (by decide) rfl (fun c_7 => ?_) (fun c_7 => ?_)
          · skip
            refine w_aload_n (n := 60) O dX6_metal_59 rfl rfl rfl ?_
            refine w_aload_n (n := 61) O dX6_metal_60 rfl rfl rfl ?_
            refine w_getf (n := 64) O 0 dX6_metal_61 (by omega) hB rfl (by decide) uX6 uf_X6_10 rfl rfl ?_
            refine w_cV (n := 67) (ro := none) (R := fun mM' => ∃ pa' : Nat → Nat, isM G mM' pa' (bAm T) (bWt T) ∧ (∀ g, g < T.2.2.2.1 → pa' g = tGives T g) ∧ okP pa' ∧ sm mM mM' 9 11) (st := []) (st1 := []) (As := [.ref (gb_ad G 1)]) (b := 0) O dX6_metal_64 ul_X6_130 um_X6_cast (f_X6_cast (T := T) hW hB ⟨hT.1, hT.2.1, hT.2.2.1, hT.2.2.2⟩ (by omega) ok (by omega) ⟨hM.1, hM.2.1, hM.2.2⟩ hp (fun M' pa' h1 h2 h3 h4 => ⟨rfl, pa', h1, h2, h3, h4⟩)) rfl (by omega) hB rfl rfl rfl rfl (by decide) (Nat.le_of_ble_eq_true rfl) rfl (fun mhM_8 hM_8 => ?_)
            obtain ⟨pahM_8, hMhM_8, hghM_8, hphM_8, hshM_8⟩ := hM_8
            refine w_aload_n (n := 68) O dX6_metal_67 rfl rfl rfl ?_
            refine w_getf (n := 71) O 2 dX6_metal_68 (by omega) ((hshM_8 (0) (by omega)).trans hB) rfl (by decide) uX6 uf_X6_22 rfl rfl ?_
            refine w_getf (n := 74) O 1 dX6_metal_71 (by omega) hMhM_8.1 rfl (by decide) uX1 uf_X6_133 rfl rfl ?_
            refine w_iload_n (n := 75) O dX6_metal_74 rfl rfl rfl ?_
            refine w_ialdN (n := 76) O dX6_metal_75 hW.2.1 (by omega) hMhM_8.2.2 (by omega) (by decide) rfl ?_
            refine w_iret O dX6_metal_76 ?_
            have e0 : a_metal T (nI k) (nI j) = (nI ((bAm T) (k))) := by unfold a_metal; rw [if_pos ⟨hr_k, by rw [if_neg (fun e => c_3 ((nI_eq (by omega) (by omega)).mp e))]; exact hr_j⟩, if_neg (fun e => c_6 ((nI_eq (by omega) (by omega)).mp e)), if_neg (fun e => c_7 ((nI_eq (by omega) (by omega)).mp e)), cl_k]
            rw [e0] at hQ
            try dsimp only at hQ
            exact hQ _ ⟨((hshM_8 (0) (by omega)).trans hB), ⟨((hshM_8 (1) (by omega)).trans hT.1), ((hshM_8 (2) (by omega)).trans hT.2.1), ((hshM_8 (3) (by omega)).trans hT.2.2.1), ((hshM_8 (4) (by omega)).trans hT.2.2.2)⟩, hok, (hU.kp (kp_sm hshM_8 (by omega))), ⟨_, _, _, ⟨hMhM_8.1, hMhM_8.2.1, hMhM_8.2.2⟩, hphM_8⟩, (hP.kp (kp_sm hshM_8 (by omega))), (hS.kp (kp_sm hshM_8 (by omega))), (hG.kp (kp_sm hshM_8 (by omega))), (hI.kp (kp_sm hshM_8 (by omega))), ((hshM_8 (39) (by omega)).trans hK), (hH.kp (kp_sm hshM_8 (by omega)))⟩ (sm.rf.tr (hshM_8.mono (by omega) (by omega)))
          · skip
            refine w_aload_n (n := 50) O dX6_metal_49 rfl rfl rfl ?_
            refine w_getf (n := 53) O 0 dX6_metal_50 (by omega) hB rfl (by decide) uX6 uf_X6_10 rfl rfl ?_
            refine w_getf (n := 56) O 2 dX6_metal_53 (by omega) hT.1 rfl (by decide) uX5 uf_X6_127 rfl rfl ?_
            refine w_iload_n (n := 57) O dX6_metal_56 rfl rfl rfl ?_
            refine w_ialdN (n := 58) O dX6_metal_57 hW.2.1 (by omega) hT.2.2.2 (by omega) (by decide) rfl ?_
            refine w_iret O dX6_metal_58 ?_
            have e0 : a_metal T (nI k) (nI j) = (nI (T.2.2.1 (k))) := by unfold a_metal; rw [if_pos ⟨hr_k, by rw [if_neg (fun e => c_3 ((nI_eq (by omega) (by omega)).mp e))]; exact hr_j⟩, if_neg (fun e => c_6 ((nI_eq (by omega) (by omega)).mp e)), if_pos (by rw [c_7]), cl_k]
            rw [e0] at hQ
            try dsimp only at hQ
            exact hQ _ ⟨hB, ⟨hT.1, hT.2.1, hT.2.2.1, hT.2.2.2⟩, hok, hU, ⟨_, _, _, ⟨hM.1, hM.2.1, hM.2.2⟩, hp⟩, hP, hS, hG, hI, hK, hH⟩ sm.rf
        · skip
          refine w_aload_n (n := 35) O dX6_metal_34 rfl rfl rfl ?_
          refine w_getf (n := 38) O 0 dX6_metal_35 (by omega) hB rfl (by decide) uX6 uf_X6_10 rfl rfl ?_
          refine w_getf (n := 41) O 1 dX6_metal_38 (by omega) hT.1 rfl (by decide) uX5 uf_X6_124 rfl rfl ?_
          refine w_iload_n (n := 42) O dX6_metal_41 rfl rfl rfl ?_
          refine w_ialdN (n := 43) O dX6_metal_42 hW.2.1 (by omega) hT.2.2.1 (by omega) (by decide) rfl ?_
          refine w_iret O dX6_metal_43 ?_
          have e0 : a_metal T (nI k) (nI j) = (nI (T.2.1 (k))) := by unfold a_metal; rw [if_pos ⟨hr_k, by rw [if_neg (fun e => c_3 ((nI_eq (by omega) (by omega)).mp e))]; exact hr_j⟩, if_pos (by rw [c_6]), cl_k]
          rw [e0] at hQ
          try dsimp only at hQ
          exact hQ _ ⟨hB, ⟨hT.1, hT.2.1, hT.2.2.1, hT.2.2.2⟩, hok, hU, ⟨_, _, _, ⟨hM.1, hM.2.1, hM.2.2⟩, hp⟩, hP, hS, hG, hI, hK, hH⟩ sm.rf
      · skip
        refine w_iconst (n := 28) O dX6_metal_27 (v := (-1)) (by decide) rfl ?_
        refine w_iret O dX6_metal_28 ?_
        have e0 : a_metal T (nI k) x = -1 := by unfold a_metal; rw [if_neg (fun q => by have q2 := q.2; rw [if_neg (fun e => c_3 ((nI_eq (by omega) (by omega)).mp e)), c_5] at q2; exact absurd q2 (by decide))]
        rw [e0] at hQ
        try dsimp only at hQ
        exact hQ _ ⟨hB, ⟨hT.1, hT.2.1, hT.2.2.1, hT.2.2.2⟩, hok, hU, ⟨_, _, _, ⟨hM.1, hM.2.1, hM.2.2⟩, hp⟩, hP, hS, hG, hI, hK, hH⟩ sm.rf
    · skip
      refine w_iconst (n := 17) O dX6_metal_16 (v := (nI 0)) (by decide) rfl ?_
      refine w_goto (tgt := 21) O dX6_metal_17 (by decide) ?_
      refine w_cS (n := 24) (ro := some (.int (bI (wIn (x) (nI (0)) (nI (0)))))) (R := fun mM' => mM = mM') (st := []) (st1 := [.int (bI (wIn (x) (nI (0)) (nI (0))))]) (As := [.int (x), .int (nI 0), .int (nI 0)]) O dX6_metal_21 ul_X6_66 um_X6_within (f_X6_within hW ⟨rfl, rfl⟩) rfl rfl rfl (by decide) (Nat.le_of_ble_eq_true rfl) rfl (fun mhM_9 hM_9 => ?_)
      subst hM_9
      refine w_if_neB (n := 27) (tgt := 29) O dX6_metal_24 (by decide) rfl (fun c_10 => ?_) (fun c_10 => ?_)
      · skip
        have hr_j := c_10
        obtain ⟨j, ja, jb, rfl⟩ := wIn_t (by omega) c_10 (by omega)
        have cl_j : (nI j).toNatClampNeg = j := nI_clamp (by omega)
        refine w_iload_n (n := 30) O dX6_metal_29 rfl rfl rfl ?_
        refine w_iconst (n := 31) O dX6_metal_30 (v := (nI 1)) (by decide) rfl ?_
        refine w_icmp_neN (n := 34) (tgt := 44) O dX6_metal_31 (by omega) (by omega) (by decide) rfl (fun c_11 => ?_) (fun c_11 => ?_)
        · skip
          refine w_iload_n (n := 45) O dX6_metal_44 rfl rfl rfl ?_
          refine w_iconst (n := 46) O dX6_metal_45 (v := (nI 2)) (by decide) rfl ?_
          refine w_icmp_neN (n := 49) (tgt := 59) O dX6_metal_46 (by omega) (by omega) (by decide) rfl (fun c_12 => ?_) (fun c_12 => ?_)
          · skip
            refine w_aload_n (n := 60) O dX6_metal_59 rfl rfl rfl ?_
            refine w_aload_n (n := 61) O dX6_metal_60 rfl rfl rfl ?_
            refine w_getf (n := 64) O 0 dX6_metal_61 (by omega) hB rfl (by decide) uX6 uf_X6_10 rfl rfl ?_
            refine w_cV (n := 67) (ro := none) (R := fun mM' => ∃ pa' : Nat → Nat, isM G mM' pa' (bAm T) (bWt T) ∧ (∀ g, g < T.2.2.2.1 → pa' g = tGives T g) ∧ okP pa' ∧ sm mM mM' 9 11) (st := []) (st1 := []) (As := [.ref (gb_ad G 1)]) (b := 0) O dX6_metal_64 ul_X6_130 um_X6_cast (f_X6_cast (T := T) hW hB ⟨hT.1, hT.2.1, hT.2.2.1, hT.2.2.2⟩ (by omega) ok (by omega) ⟨hM.1, hM.2.1, hM.2.2⟩ hp (fun M' pa' h1 h2 h3 h4 => ⟨rfl, pa', h1, h2, h3, h4⟩)) rfl (by omega) hB rfl rfl rfl rfl (by decide) (Nat.le_of_ble_eq_true rfl) rfl (fun mhM_13 hM_13 => ?_)
            obtain ⟨pahM_13, hMhM_13, hghM_13, hphM_13, hshM_13⟩ := hM_13
            refine w_aload_n (n := 68) O dX6_metal_67 rfl rfl rfl ?_
            refine w_getf (n := 71) O 2 dX6_metal_68 (by omega) ((hshM_13 (0) (by omega)).trans hB) rfl (by decide) uX6 uf_X6_22 rfl rfl ?_
            refine w_getf (n := 74) O 1 dX6_metal_71 (by omega) hMhM_13.1 rfl (by decide) uX1 uf_X6_133 rfl rfl ?_
            refine w_iload_n (n := 75) O dX6_metal_74 rfl rfl rfl ?_
            refine w_ialdN (n := 76) O dX6_metal_75 hW.2.1 (by omega) hMhM_13.2.2 (by omega) (by decide) rfl ?_
            refine w_iret O dX6_metal_76 ?_
            have e0 : a_metal T (nI k) (nI j) = (nI ((bAm T) (k))) := by unfold a_metal; rw [if_pos ⟨hr_k, by rw [if_pos (by rw [c_3])]; exact hr_j⟩, if_neg (fun e => c_11 ((nI_eq (by omega) (by omega)).mp e)), if_neg (fun e => c_12 ((nI_eq (by omega) (by omega)).mp e)), cl_k]
            rw [e0] at hQ
            try dsimp only at hQ
            exact hQ _ ⟨((hshM_13 (0) (by omega)).trans hB), ⟨((hshM_13 (1) (by omega)).trans hT.1), ((hshM_13 (2) (by omega)).trans hT.2.1), ((hshM_13 (3) (by omega)).trans hT.2.2.1), ((hshM_13 (4) (by omega)).trans hT.2.2.2)⟩, hok, (hU.kp (kp_sm hshM_13 (by omega))), ⟨_, _, _, ⟨hMhM_13.1, hMhM_13.2.1, hMhM_13.2.2⟩, hphM_13⟩, (hP.kp (kp_sm hshM_13 (by omega))), (hS.kp (kp_sm hshM_13 (by omega))), (hG.kp (kp_sm hshM_13 (by omega))), (hI.kp (kp_sm hshM_13 (by omega))), ((hshM_13 (39) (by omega)).trans hK), (hH.kp (kp_sm hshM_13 (by omega)))⟩ (sm.rf.tr (hshM_13.mono (by omega) (by omega)))
          · skip
            refine w_aload_n (n := 50) O dX6_metal_49 rfl rfl rfl ?_
            refine w_getf (n := 53) O 0 dX6_metal_50 (by omega) hB rfl (by decide) uX6 uf_X6_10 rfl rfl ?_
            refine w_getf (n := 56) O 2 dX6_metal_53 (by omega) hT.1 rfl (by decide) uX5 uf_X6_127 rfl rfl ?_
            refine w_iload_n (n := 57) O dX6_metal_56 rfl rfl rfl ?_
            refine w_ialdN (n := 58) O dX6_metal_57 hW.2.1 (by omega) hT.2.2.2 (by omega) (by decide) rfl ?_
            refine w_iret O dX6_metal_58 ?_
            have e0 : a_metal T (nI k) (nI j) = (nI (T.2.2.1 (k))) := by unfold a_metal; rw [if_pos ⟨hr_k, by rw [if_pos (by rw [c_3])]; exact hr_j⟩, if_neg (fun e => c_11 ((nI_eq (by omega) (by omega)).mp e)), if_pos (by rw [c_12]), cl_k]
            rw [e0] at hQ
            try dsimp only at hQ
            exact hQ _ ⟨hB, ⟨hT.1, hT.2.1, hT.2.2.1, hT.2.2.2⟩, hok, hU, ⟨_, _, _, ⟨hM.1, hM.2.1, hM.2.2⟩, hp⟩, hP, hS, hG, hI, hK, hH⟩ sm.rf
        · skip
          refine w_aload_n (n := 35) O dX6_metal_34 rfl rfl rfl ?_
          refine w_getf (n := 38) O 0 dX6_metal_35 (by omega) hB rfl (by decide) uX6 uf_X6_10 rfl rfl ?_
          refine w_getf (n := 41) O 1 dX6_metal_38 (by omega) hT.1 rfl (by decide) uX5 uf_X6_124 rfl rfl ?_
          refine w_iload_n (n := 42) O dX6_metal_41 rfl rfl rfl ?_
          refine w_ialdN (n := 43) O dX6_metal_42 hW.2.1 (by omega) hT.2.2.1 (by omega) (by decide) rfl ?_
          refine w_iret O dX6_metal_43 ?_
          have e0 : a_metal T (nI k) (nI j) = (nI (T.2.1 (k))) := by unfold a_metal; rw [if_pos ⟨hr_k, by rw [if_pos (by rw [c_3])]; exact hr_j⟩, if_pos (by rw [c_11]), cl_k]
          rw [e0] at hQ
          try dsimp only at hQ
          exact hQ _ ⟨hB, ⟨hT.1, hT.2.1, hT.2.2.1, hT.2.2.2⟩, hok, hU, ⟨_, _, _, ⟨hM.1, hM.2.1, hM.2.2⟩, hp⟩, hP, hS, hG, hI, hK, hH⟩ sm.rf
      · skip
        refine w_iconst (n := 28) O dX6_metal_27 (v := (-1)) (by decide) rfl ?_
        refine w_iret O dX6_metal_28 ?_
        have e0 : a_metal T (nI k) x = -1 := by unfold a_metal; rw [if_neg (fun q => by have q2 := q.2; rw [if_pos (by rw [c_3]), c_10] at q2; exact absurd q2 (by decide))]
        rw [e0] at hQ
        try dsimp only at hQ
        exact hQ _ ⟨hB, ⟨hT.1, hT.2.1, hT.2.2.1, hT.2.2.2⟩, hok, hU, ⟨_, _, _, ⟨hM.1, hM.2.1, hM.2.2⟩, hp⟩, hP, hS, hG, hI, hK, hH⟩ sm.rf
set_option maxRecDepth 100000 in
set_option maxHeartbeats 4000000 in
theorem f_X6_bell {G : gb_G} (hW : gW G) {Q : Option Value → gb_M → Prop} {mM : gb_M} {T : Tw} {im : Nat → Tw} {kp : Nat → Bool} {bs : Nat → Nat} {ln fa : Nat} {st sf : Nat → Nat} {sn : Nat} {sh : Sh} {sc : Nat → Nat → Int32} {tn : Nat} (hC : isCW G mM T im kp bs ln fa st sf sn sh sc tn) {x : Int32}  (hQ : ∀ M', isCW G M' T im kp bs ln fa st sf sn sh sc tn → sm mM M' 0 48 → Q (some (.int (a_bell T x))) M') : Fn G 6 yX6_bell cX6_bell 2 (some .int) [.ref (gb_ad G 0), .int (x)] mM Q := by
  obtain ⟨hB, hT, hok, hU, hMx, hP, hS, hG, hI, hK, hH⟩ := hC
  have ok := hok.1
  have hn4 := ok.1
  have hst9 := hok.2.1
  have hln := hok.2.2.2.1
  have hsn6 := hok.2.2.2.2.2.2.1
  obtain ⟨pa, am, w, hM, hp⟩ := hMx
  have hN := hW.2.2.1
  refine Fn.of hW.1 [(0, .ref (gb_ad G 0)), (1, .int (x))] (by decide) (Nat.le_of_ble_eq_true rfl) rfl ?_
  intro X O
  refine w_aload_n (n := 1) O dX6_bell_0 rfl rfl rfl ?_
  refine w_aload_n (n := 2) O dX6_bell_1 rfl rfl rfl ?_
  refine w_getf (n := 5) O 0 dX6_bell_2 (by omega) hB rfl (by decide) uX6 uf_X6_10 rfl rfl ?_
  refine w_cV (n := 8) (ro := none) (R := fun mM' => ∃ pa' : Nat → Nat, isM G mM' pa' (bAm T) (bWt T) ∧ (∀ g, g < T.2.2.2.1 → pa' g = tGives T g) ∧ okP pa' ∧ sm mM mM' 9 11) (st := []) (st1 := []) (As := [.ref (gb_ad G 1)]) (b := 0) O dX6_bell_5 ul_X6_130 um_X6_cast (f_X6_cast (T := T) hW hB ⟨hT.1, hT.2.1, hT.2.2.1, hT.2.2.2⟩ (by omega) ok (by omega) ⟨hM.1, hM.2.1, hM.2.2⟩ hp (fun M' pa' h1 h2 h3 h4 => ⟨rfl, pa', h1, h2, h3, h4⟩)) rfl (by omega) hB rfl rfl rfl rfl (by decide) (Nat.le_of_ble_eq_true rfl) rfl (fun mhM_1 hM_1 => ?_)
  obtain ⟨pahM_1, hMhM_1, hghM_1, hphM_1, hshM_1⟩ := hM_1
  refine w_iload_n (n := 9) O dX6_bell_8 rfl rfl rfl ?_
  rcases sw_in x 4 (by decide) with ⟨wsw_2, hwsw_2, hxsw_2⟩ | sw_2
  · rcases (show wsw_2 = 0 ∨ wsw_2 = 1 ∨ wsw_2 = 2 ∨ wsw_2 = 3 ∨ wsw_2 = 4 by omega) with rfl | rfl | rfl | rfl | rfl
    · skip
      subst hxsw_2
      refine w_tableIn (tgt := 44) O dX6_bell_9 (by decide) (by decide) rfl (by decide) ?_
      refine w_aload_n (n := 45) O dX6_bell_44 rfl rfl rfl ?_
      refine w_getf (n := 48) O 2 dX6_bell_45 (by omega) ((hshM_1 (0) (by omega)).trans hB) rfl (by decide) uX6 uf_X6_22 rfl rfl ?_
      refine w_getf (n := 51) O 2 dX6_bell_48 (by omega) hMhM_1.1 rfl (by decide) uX1 uf_X6_136 rfl rfl ?_
      refine w_iret O dX6_bell_51 ?_
      have e0 : a_bell T (nI 0) = (nI (bWt T)) := by unfold a_bell; rw [if_pos rfl]
      rw [e0] at hQ
      try dsimp only at hQ
      exact hQ _ ⟨((hshM_1 (0) (by omega)).trans hB), ⟨((hshM_1 (1) (by omega)).trans hT.1), ((hshM_1 (2) (by omega)).trans hT.2.1), ((hshM_1 (3) (by omega)).trans hT.2.2.1), ((hshM_1 (4) (by omega)).trans hT.2.2.2)⟩, hok, (hU.kp (kp_sm hshM_1 (by omega))), ⟨_, _, _, ⟨hMhM_1.1, hMhM_1.2.1, hMhM_1.2.2⟩, hphM_1⟩, (hP.kp (kp_sm hshM_1 (by omega))), (hS.kp (kp_sm hshM_1 (by omega))), (hG.kp (kp_sm hshM_1 (by omega))), (hI.kp (kp_sm hshM_1 (by omega))), ((hshM_1 (39) (by omega)).trans hK), (hH.kp (kp_sm hshM_1 (by omega)))⟩ (sm.rf.tr (hshM_1.mono (by omega) (by omega)))
    · skip
      subst hxsw_2
      refine w_tableIn (tgt := 52) O dX6_bell_9 (by decide) (by decide) rfl (by decide) ?_
      refine w_aload_n (n := 53) O dX6_bell_52 rfl rfl rfl ?_
      refine w_getf (n := 56) O 2 dX6_bell_53 (by omega) ((hshM_1 (0) (by omega)).trans hB) rfl (by decide) uX6 uf_X6_22 rfl rfl ?_
      refine w_cV (n := 59) (ro := some (.int (oI (pNote (bAm T) (bWt T))))) (R := fun mM' => mhM_1 = mM') (st := []) (st1 := [.int (oI (pNote (bAm T) (bWt T)))]) (As := []) (b := 9) O dX6_bell_56 ul_X6_139 um_X1_pitch (f_X1_pitch hW ⟨hMhM_1.1, hMhM_1.2.1, hMhM_1.2.2⟩ (fun m _ => bAm_le ok m) (bWt_le ok) ⟨rfl, rfl⟩) rfl (by omega) hMhM_1.1 rfl rfl rfl rfl (by decide) (Nat.le_of_ble_eq_true rfl) rfl (fun mhM_3 hM_3 => ?_)
      subst hM_3
      refine w_iret O dX6_bell_59 ?_
      have e0 : a_bell T (nI 1) = (oI (pNote (bAm T) (bWt T))) := by unfold a_bell; rw [if_neg (by decide), if_pos rfl]
      rw [e0] at hQ
      try dsimp only at hQ
      exact hQ _ ⟨((hshM_1 (0) (by omega)).trans hB), ⟨((hshM_1 (1) (by omega)).trans hT.1), ((hshM_1 (2) (by omega)).trans hT.2.1), ((hshM_1 (3) (by omega)).trans hT.2.2.1), ((hshM_1 (4) (by omega)).trans hT.2.2.2)⟩, hok, (hU.kp (kp_sm hshM_1 (by omega))), ⟨_, _, _, ⟨hMhM_1.1, hMhM_1.2.1, hMhM_1.2.2⟩, hphM_1⟩, (hP.kp (kp_sm hshM_1 (by omega))), (hS.kp (kp_sm hshM_1 (by omega))), (hG.kp (kp_sm hshM_1 (by omega))), (hI.kp (kp_sm hshM_1 (by omega))), ((hshM_1 (39) (by omega)).trans hK), (hH.kp (kp_sm hshM_1 (by omega)))⟩ (sm.rf.tr (hshM_1.mono (by omega) (by omega)))
    · skip
      subst hxsw_2
      refine w_tableIn (tgt := 60) O dX6_bell_9 (by decide) (by decide) rfl (by decide) ?_
      refine w_aload_n (n := 61) O dX6_bell_60 rfl rfl rfl ?_
      refine w_getf (n := 64) O 2 dX6_bell_61 (by omega) ((hshM_1 (0) (by omega)).trans hB) rfl (by decide) uX6 uf_X6_22 rfl rfl ?_
      refine w_cV (n := 67) (ro := some (.int (nI (pSweet (bAm T) (bWt T))))) (R := fun mM' => mhM_1 = mM') (st := []) (st1 := [.int (nI (pSweet (bAm T) (bWt T)))]) (As := []) (b := 9) O dX6_bell_64 ul_X6_143 um_X1_sweetness (f_X1_sweetness hW ⟨hMhM_1.1, hMhM_1.2.1, hMhM_1.2.2⟩ (fun m _ => bAm_le ok m) (bWt_le ok) ⟨rfl, rfl⟩) rfl (by omega) hMhM_1.1 rfl rfl rfl rfl (by decide) (Nat.le_of_ble_eq_true rfl) rfl (fun mhM_4 hM_4 => ?_)
      subst hM_4
      refine w_iret O dX6_bell_67 ?_
      have e0 : a_bell T (nI 2) = (nI (pSweet (bAm T) (bWt T))) := by unfold a_bell; rw [if_neg (by decide), if_neg (by decide), if_pos rfl]
      rw [e0] at hQ
      try dsimp only at hQ
      exact hQ _ ⟨((hshM_1 (0) (by omega)).trans hB), ⟨((hshM_1 (1) (by omega)).trans hT.1), ((hshM_1 (2) (by omega)).trans hT.2.1), ((hshM_1 (3) (by omega)).trans hT.2.2.1), ((hshM_1 (4) (by omega)).trans hT.2.2.2)⟩, hok, (hU.kp (kp_sm hshM_1 (by omega))), ⟨_, _, _, ⟨hMhM_1.1, hMhM_1.2.1, hMhM_1.2.2⟩, hphM_1⟩, (hP.kp (kp_sm hshM_1 (by omega))), (hS.kp (kp_sm hshM_1 (by omega))), (hG.kp (kp_sm hshM_1 (by omega))), (hI.kp (kp_sm hshM_1 (by omega))), ((hshM_1 (39) (by omega)).trans hK), (hH.kp (kp_sm hshM_1 (by omega)))⟩ (sm.rf.tr (hshM_1.mono (by omega) (by omega)))
    · skip
      subst hxsw_2
      refine w_tableIn (tgt := 68) O dX6_bell_9 (by decide) (by decide) rfl (by decide) ?_
      refine w_aload_n (n := 69) O dX6_bell_68 rfl rfl rfl ?_
      refine w_getf (n := 72) O 2 dX6_bell_69 (by omega) ((hshM_1 (0) (by omega)).trans hB) rfl (by decide) uX6 uf_X6_22 rfl rfl ?_
      refine w_aload_n (n := 73) O dX6_bell_72 rfl rfl rfl ?_
      refine w_getf (n := 76) O 0 dX6_bell_73 (by omega) ((hshM_1 (0) (by omega)).trans hB) rfl (by decide) uX6 uf_X6_10 rfl rfl ?_
      refine w_cV (n := 79) (ro := some (.int (bI (pTrue T (bAm T) (bWt T))))) (R := fun mM' => mhM_1 = mM') (st := []) (st1 := [.int (bI (pTrue T (bAm T) (bWt T)))]) (As := [.ref (gb_ad G 1)]) (b := 9) O dX6_bell_76 ul_X6_146 um_X1_isTrue (f_X1_isTrue (T := T) hW ⟨((hshM_1 (1) (by omega)).trans hT.1), ((hshM_1 (2) (by omega)).trans hT.2.1), ((hshM_1 (3) (by omega)).trans hT.2.2.1), ((hshM_1 (4) (by omega)).trans hT.2.2.2)⟩ (by omega) ok (by omega) ⟨hMhM_1.1, hMhM_1.2.1, hMhM_1.2.2⟩ (fun m _ => bAm_le ok m) (bWt_le ok) ⟨rfl, rfl⟩) rfl (by omega) hMhM_1.1 rfl rfl rfl rfl (by decide) (Nat.le_of_ble_eq_true rfl) rfl (fun mhM_5 hM_5 => ?_)
      subst hM_5
      refine w_if_eqB (n := 82) (tgt := 86) O dX6_bell_79 (by decide) rfl (fun c_6 => ?_) (fun c_6 => ?_)
      · skip
        refine w_iconst (n := 87) O dX6_bell_86 (v := (nI 0)) (by decide) rfl ?_
        refine w_iret O dX6_bell_87 ?_
        have e0 : a_bell T (nI 3) = (nI (0)) := by unfold a_bell; rw [if_neg (by decide), if_neg (by decide), if_neg (by decide), if_pos rfl, show tTrue T = false from c_6]; rfl
        rw [e0] at hQ
        try dsimp only at hQ
        exact hQ _ ⟨((hshM_1 (0) (by omega)).trans hB), ⟨((hshM_1 (1) (by omega)).trans hT.1), ((hshM_1 (2) (by omega)).trans hT.2.1), ((hshM_1 (3) (by omega)).trans hT.2.2.1), ((hshM_1 (4) (by omega)).trans hT.2.2.2)⟩, hok, (hU.kp (kp_sm hshM_1 (by omega))), ⟨_, _, _, ⟨hMhM_1.1, hMhM_1.2.1, hMhM_1.2.2⟩, hphM_1⟩, (hP.kp (kp_sm hshM_1 (by omega))), (hS.kp (kp_sm hshM_1 (by omega))), (hG.kp (kp_sm hshM_1 (by omega))), (hI.kp (kp_sm hshM_1 (by omega))), ((hshM_1 (39) (by omega)).trans hK), (hH.kp (kp_sm hshM_1 (by omega)))⟩ (sm.rf.tr (hshM_1.mono (by omega) (by omega)))
      · skip
        refine w_iconst (n := 83) O dX6_bell_82 (v := (nI 1)) (by decide) rfl ?_
        refine w_goto (tgt := 87) O dX6_bell_83 (by decide) ?_
        refine w_iret O dX6_bell_87 ?_
        have e0 : a_bell T (nI 3) = (nI (1)) := by unfold a_bell; rw [if_neg (by decide), if_neg (by decide), if_neg (by decide), if_pos rfl, show tTrue T = true from c_6]; rfl
        rw [e0] at hQ
        try dsimp only at hQ
        exact hQ _ ⟨((hshM_1 (0) (by omega)).trans hB), ⟨((hshM_1 (1) (by omega)).trans hT.1), ((hshM_1 (2) (by omega)).trans hT.2.1), ((hshM_1 (3) (by omega)).trans hT.2.2.1), ((hshM_1 (4) (by omega)).trans hT.2.2.2)⟩, hok, (hU.kp (kp_sm hshM_1 (by omega))), ⟨_, _, _, ⟨hMhM_1.1, hMhM_1.2.1, hMhM_1.2.2⟩, hphM_1⟩, (hP.kp (kp_sm hshM_1 (by omega))), (hS.kp (kp_sm hshM_1 (by omega))), (hG.kp (kp_sm hshM_1 (by omega))), (hI.kp (kp_sm hshM_1 (by omega))), ((hshM_1 (39) (by omega)).trans hK), (hH.kp (kp_sm hshM_1 (by omega)))⟩ (sm.rf.tr (hshM_1.mono (by omega) (by omega)))
    · skip
      subst hxsw_2
      refine w_tableIn (tgt := 88) O dX6_bell_9 (by decide) (by decide) rfl (by decide) ?_
      refine w_aload_n (n := 89) O dX6_bell_88 rfl rfl rfl ?_
      refine w_getf (n := 92) O 0 dX6_bell_89 (by omega) ((hshM_1 (0) (by omega)).trans hB) rfl (by decide) uX6 uf_X6_10 rfl rfl ?_
      refine w_cV (n := 95) (ro := some (.int (nI (sBits (fun g => decide (tGives T g < tShare T g)) T.2.2.2.1)))) (R := fun mM' => mhM_1 = mM') (st := []) (st1 := [.int (nI (sBits (fun g => decide (tGives T g < tShare T g)) T.2.2.2.1))]) (As := []) (b := 1) O dX6_bell_92 ul_X6_150 um_X5_flaws (f_X5_flaws (T := T) hW ⟨((hshM_1 (1) (by omega)).trans hT.1), ((hshM_1 (2) (by omega)).trans hT.2.1), ((hshM_1 (3) (by omega)).trans hT.2.2.1), ((hshM_1 (4) (by omega)).trans hT.2.2.2)⟩ (by omega) ok ⟨rfl, rfl⟩) rfl (by omega) ((hshM_1 (1) (by omega)).trans hT.1) rfl rfl rfl rfl (by decide) (Nat.le_of_ble_eq_true rfl) rfl (fun mhM_7 hM_7 => ?_)
      subst hM_7
      refine w_iret O dX6_bell_95 ?_
      have e0 : a_bell T (nI 4) = (nI (sBits (fun g => decide (tGives T g < tShare T g)) T.2.2.2.1)) := by unfold a_bell; rw [if_neg (by decide), if_neg (by decide), if_neg (by decide), if_neg (by decide), if_pos rfl]
      rw [e0] at hQ
      try dsimp only at hQ
      exact hQ _ ⟨((hshM_1 (0) (by omega)).trans hB), ⟨((hshM_1 (1) (by omega)).trans hT.1), ((hshM_1 (2) (by omega)).trans hT.2.1), ((hshM_1 (3) (by omega)).trans hT.2.2.1), ((hshM_1 (4) (by omega)).trans hT.2.2.2)⟩, hok, (hU.kp (kp_sm hshM_1 (by omega))), ⟨_, _, _, ⟨hMhM_1.1, hMhM_1.2.1, hMhM_1.2.2⟩, hphM_1⟩, (hP.kp (kp_sm hshM_1 (by omega))), (hS.kp (kp_sm hshM_1 (by omega))), (hG.kp (kp_sm hshM_1 (by omega))), (hI.kp (kp_sm hshM_1 (by omega))), ((hshM_1 (39) (by omega)).trans hK), (hH.kp (kp_sm hshM_1 (by omega)))⟩ (sm.rf.tr (hshM_1.mono (by omega) (by omega)))
  · skip
    refine w_tableOut (tgt := 96) O dX6_bell_9 (by first | exact sw_2 | omega) (by decide) ?_
    refine w_iconst (n := 97) O dX6_bell_96 (v := (-1)) (by decide) rfl ?_
    refine w_iret O dX6_bell_97 ?_
    have e0 : a_bell T x = (-1) := by unfold a_bell; rw [if_neg (fun e => by rw [e] at sw_2; revert sw_2; decide), if_neg (fun e => by rw [e] at sw_2; revert sw_2; decide), if_neg (fun e => by rw [e] at sw_2; revert sw_2; decide), if_neg (fun e => by rw [e] at sw_2; revert sw_2; decide), if_neg (fun e => by rw [e] at sw_2; revert sw_2; decide)]
    rw [e0] at hQ
    try dsimp only at hQ
    exact hQ _ ⟨((hshM_1 (0) (by omega)).trans hB), ⟨((hshM_1 (1) (by omega)).trans hT.1), ((hshM_1 (2) (by omega)).trans hT.2.1), ((hshM_1 (3) (by omega)).trans hT.2.2.1), ((hshM_1 (4) (by omega)).trans hT.2.2.2)⟩, hok, (hU.kp (kp_sm hshM_1 (by omega))), ⟨_, _, _, ⟨hMhM_1.1, hMhM_1.2.1, hMhM_1.2.2⟩, hphM_1⟩, (hP.kp (kp_sm hshM_1 (by omega))), (hS.kp (kp_sm hshM_1 (by omega))), (hG.kp (kp_sm hshM_1 (by omega))), (hI.kp (kp_sm hshM_1 (by omega))), ((hshM_1 (39) (by omega)).trans hK), (hH.kp (kp_sm hshM_1 (by omega)))⟩ (sm.rf.tr (hshM_1.mono (by omega) (by omega)))
set_option maxRecDepth 100000 in
set_option maxHeartbeats 4000000 in
theorem f_X6_tap {G : gb_G} (hW : gW G) {Q : Option Value → gb_M → Prop} {mM : gb_M} {T : Tw} {im : Nat → Tw} {kp : Nat → Bool} {bs : Nat → Nat} {ln fa : Nat} {st sf : Nat → Nat} {sn : Nat} {sh : Sh} {sc : Nat → Nat → Int32} {tn : Nat} (hC : isCW G mM T im kp bs ln fa st sf sn sh sc tn) {x : Int32}  (hQ : ∀ M', isCW G M' T im kp bs ln fa st sf sn sh sc tn → sm mM M' 0 48 → Q (some (.int (a_tap T x))) M') : Fn G 6 yX6_tap cX6_tap 4 (some .int) [.ref (gb_ad G 0), .int (x)] mM Q := by
  obtain ⟨hB, hT, hok, hU, hMx, hP, hS, hG, hI, hK, hH⟩ := hC
  have ok := hok.1
  have hn4 := ok.1
  have hst9 := hok.2.1
  have hln := hok.2.2.2.1
  have hsn6 := hok.2.2.2.2.2.2.1
  obtain ⟨pa, am, w, hM, hp⟩ := hMx
  have hN := hW.2.2.1
  refine Fn.of hW.1 [(0, .ref (gb_ad G 0)), (1, .int (x))] (by decide) (Nat.le_of_ble_eq_true rfl) rfl ?_
  intro X O
  refine w_iload_n (n := 1) O dX6_tap_0 rfl rfl rfl ?_
  refine w_iconst (n := 2) O dX6_tap_1 (v := (nI 0)) (by decide) rfl ?_
  refine w_bipush (n := 4) O dX6_tap_2 (v := (nI 8)) (by decide) rfl ?_
  refine w_cS (n := 7) (ro := some (.int (bI (wIn (x) (nI (0)) (nI (8)))))) (R := fun mM' => mM = mM') (st := []) (st1 := [.int (bI (wIn (x) (nI (0)) (nI (8))))]) (As := [.int (x), .int (nI 0), .int (nI 8)]) O dX6_tap_4 ul_X6_66 um_X6_within (f_X6_within hW ⟨rfl, rfl⟩) rfl rfl rfl (by decide) (Nat.le_of_ble_eq_true rfl) rfl (fun mhM_1 hM_1 => ?_)
  subst hM_1
  refine w_if_neB (n := 10) (tgt := 12) O dX6_tap_7 (by decide) rfl (fun c_2 => ?_) (fun c_2 => ?_)
  · skip
    have hr_j := c_2
    obtain ⟨j, ja, jb, rfl⟩ := wIn_t (by omega) c_2 (by omega)
    have cl_j : (nI j).toNatClampNeg = j := nI_clamp (by omega)
    have hwb := bWt_le ok
    refine w_aload_n (n := 13) O dX6_tap_12 rfl rfl rfl ?_
    refine w_aload_n (n := 14) O dX6_tap_13 rfl rfl rfl ?_
    refine w_getf (n := 17) O 0 dX6_tap_14 (by omega) hB rfl (by decide) uX6 uf_X6_10 rfl rfl ?_
    refine w_cV (n := 20) (ro := none) (R := fun mM' => ∃ pa' : Nat → Nat, isM G mM' pa' (bAm T) (bWt T) ∧ (∀ g, g < T.2.2.2.1 → pa' g = tGives T g) ∧ okP pa' ∧ sm mM mM' 9 11) (st := []) (st1 := []) (As := [.ref (gb_ad G 1)]) (b := 0) O dX6_tap_17 ul_X6_130 um_X6_cast (f_X6_cast (T := T) hW hB ⟨hT.1, hT.2.1, hT.2.2.1, hT.2.2.2⟩ (by omega) ok (by omega) ⟨hM.1, hM.2.1, hM.2.2⟩ hp (fun M' pa' h1 h2 h3 h4 => ⟨rfl, pa', h1, h2, h3, h4⟩)) rfl (by omega) hB rfl rfl rfl rfl (by decide) (Nat.le_of_ble_eq_true rfl) rfl (fun mhM_3 hM_3 => ?_)
    obtain ⟨pahM_3, hMhM_3, hghM_3, hphM_3, hshM_3⟩ := hM_3
    refine w_iload_n (n := 21) O dX6_tap_20 rfl rfl rfl ?_
    refine w_aload_n (n := 22) O dX6_tap_21 rfl rfl rfl ?_
    refine w_getf (n := 25) O 2 dX6_tap_22 (by omega) ((hshM_3 (0) (by omega)).trans hB) rfl (by decide) uX6 uf_X6_22 rfl rfl ?_
    refine w_getf (n := 28) O 2 dX6_tap_25 (by omega) hMhM_3.1 rfl (by decide) uX1 uf_X6_136 rfl rfl ?_
    refine w_imulN (n := 29) O dX6_tap_28 rfl ?_
    refine w_istore_n (n := 30) (lv' := [(2, .int (nI ((j * (bWt T))))), (0, .ref (gb_ad G 0)), (1, .int (nI (j)))]) O dX6_tap_29 rfl (by decide) rfl rfl ?_
    refine w_iconst (n := 31) O dX6_tap_30 (v := (nI 0)) (by decide) rfl ?_
    refine w_istore_n (n := 32) (lv' := [(3, .int (nI 0)), (2, .int (nI ((j * (bWt T))))), (0, .ref (gb_ad G 0)), (1, .int (nI (j)))]) O dX6_tap_31 rfl (by decide) rfl rfl ?_
    have LT : ∀ (k : Nat) (i c : Nat), T.2.2.2.1 - i = k → i ≤ T.2.2.2.1 → c = j * bWt T + sSum (fun g => tGives T g * (1 + (j + g) % 3)) i → c ≤ 4800 + i * 63 → Wm G X 4 Q 32 [(0, .ref (gb_ad G 0)), (1, .int (nI (j))), (2, .int (nI (c))), (3, .int (nI (i)))] [] mhM_3 := by
      intro k
      induction k using Nat.strongRecOn with
      | ind k ih_LT =>
        intro i c hk hi hc hcl
        refine w_iload_n (n := 33) O dX6_tap_32 rfl rfl rfl ?_
        refine w_aload_n (n := 34) O dX6_tap_33 rfl rfl rfl ?_
        refine w_getf (n := 37) O 0 dX6_tap_34 (by omega) ((hshM_3 (0) (by omega)).trans hB) rfl (by decide) uX6 uf_X6_10 rfl rfl ?_
        refine w_getf (n := 40) O 3 dX6_tap_37 (by omega) ((hshM_3 (1) (by omega)).trans hT.1) rfl (by decide) uX5 uf_X6_94 rfl rfl ?_
        refine w_icmp_geN (n := 43) (tgt := 67) O dX6_tap_40 (by omega) (by omega) (by decide) rfl (fun c_4 => ?_) (fun c_4 => ?_)
        · skip
          refine w_iload_n (n := 68) O dX6_tap_67 rfl rfl rfl ?_
          refine w_bipush (n := 70) O dX6_tap_68 (v := (nI 10)) (by decide) rfl ?_
          refine w_iremN (n := 71) O dX6_tap_70 (by omega) (by omega) (by omega) rfl ?_
          refine w_iret O dX6_tap_71 ?_
          have e0 : a_tap T (nI j) = (nI ((c % 10))) := by unfold a_tap tTap; rw [if_pos hr_j, cl_j, hc, show i = T.2.2.2.1 by omega]
          rw [e0] at hQ
          try dsimp only at hQ
          exact hQ _ ⟨((hshM_3 (0) (by omega)).trans hB), ⟨((hshM_3 (1) (by omega)).trans hT.1), ((hshM_3 (2) (by omega)).trans hT.2.1), ((hshM_3 (3) (by omega)).trans hT.2.2.1), ((hshM_3 (4) (by omega)).trans hT.2.2.2)⟩, hok, (hU.kp (kp_sm hshM_3 (by omega))), ⟨_, _, _, ⟨hMhM_3.1, hMhM_3.2.1, hMhM_3.2.2⟩, hphM_3⟩, (hP.kp (kp_sm hshM_3 (by omega))), (hS.kp (kp_sm hshM_3 (by omega))), (hG.kp (kp_sm hshM_3 (by omega))), (hI.kp (kp_sm hshM_3 (by omega))), ((hshM_3 (39) (by omega)).trans hK), (hH.kp (kp_sm hshM_3 (by omega)))⟩ (sm.rf.tr (hshM_3.mono (by omega) (by omega)))
        · skip
          have hgl := tGives_le ok (show i < 4 by omega)
          refine w_iload_n (n := 44) O dX6_tap_43 rfl rfl rfl ?_
          refine w_aload_n (n := 45) O dX6_tap_44 rfl rfl rfl ?_
          refine w_getf (n := 48) O 2 dX6_tap_45 (by omega) ((hshM_3 (0) (by omega)).trans hB) rfl (by decide) uX6 uf_X6_22 rfl rfl ?_
          refine w_getf (n := 51) O 0 dX6_tap_48 (by omega) hMhM_3.1 rfl (by decide) uX1 uf_X6_153 rfl rfl ?_
          refine w_iload_n (n := 52) O dX6_tap_51 rfl rfl rfl ?_
          refine w_ialdN (n := 53) O dX6_tap_52 hW.2.1 (by omega) hMhM_3.2.1 (by omega) (by decide) rfl ?_
          refine w_top (nI (tGives T i)) (by rw [hghM_3 i (by omega)]) ?_
          refine w_iload_n (n := 54) O dX6_tap_53 rfl rfl rfl ?_
          refine w_iload_n (n := 55) O dX6_tap_54 rfl rfl rfl ?_
          refine w_cS (n := 58) (ro := some (.int (nI (1 + (j + i) % 3)))) (R := fun mM' => mhM_3 = mM') (st := [.int (nI (tGives T i)), .int (nI (c))]) (st1 := [.int (nI (1 + (j + i) % 3)), .int (nI (tGives T i)), .int (nI (c))]) (As := [.int (nI (j)), .int (nI (i))]) O dX6_tap_55 ul_X6_156 um_X6_tapFactor (f_X6_tapFactor hW (by omega) (by omega) ⟨rfl, rfl⟩) rfl rfl rfl (by decide) (Nat.le_of_ble_eq_true rfl) rfl (fun mhM_5 hM_5 => ?_)
          subst hM_5
          have hml : tGives T i * (1 + (j + i) % 3) ≤ 63 := Nat.le_trans (Nat.mul_le_mul hgl (show 1 + (j + i) % 3 ≤ 3 by omega)) (by decide)
          refine w_imulN (n := 59) O dX6_tap_58 rfl ?_
          refine w_iaddN (n := 60) O dX6_tap_59 rfl ?_
          refine w_istore_n (n := 61) (lv' := [(2, .int (nI ((c + ((tGives T i) * (1 + (j + i) % 3)))))), (0, .ref (gb_ad G 0)), (1, .int (nI (j))), (3, .int (nI (i)))]) O dX6_tap_60 rfl (by decide) rfl rfl ?_
          refine w_iincN (n := 64) (lv' := [(3, .int (nI (i + 1))), (2, .int (nI ((c + ((tGives T i) * (1 + (j + i) % 3)))))), (0, .ref (gb_ad G 0)), (1, .int (nI (j)))]) O dX6_tap_61 rfl (by decide) rfl rfl ?_
          refine w_goto (tgt := 32) O dX6_tap_64 (by decide) ?_
          refine w_lv (lv2 := [(0, .ref (gb_ad G 0)), (1, .int (nI (j))), (2, .int (nI ((c + ((tGives T i) * (1 + (j + i) % 3)))))), (3, .int (nI (i + 1)))]) [2, 3, 1, 0] rfl ?_
          exact ih_LT _ (by omega) (i + 1) ((c + ((tGives T i) * (1 + (j + i) % 3)))) rfl (by omega) (by rw [hc]; simp only [sSum]; omega) (by rw [Nat.succ_mul]; omega)
    refine w_lv (lv2 := [(0, .ref (gb_ad G 0)), (1, .int (nI (j))), (2, .int (nI ((j * (bWt T))))), (3, .int (nI 0))]) [2, 3, 1, 0] rfl ?_
    exact LT _ 0 (j * bWt T) rfl (Nat.zero_le _) (by simp [sSum]) (by have := Nat.mul_le_mul jb (bWt_le ok); omega)
  · skip
    refine w_iconst (n := 11) O dX6_tap_10 (v := (-1)) (by decide) rfl ?_
    refine w_iret O dX6_tap_11 ?_
    have e0 : a_tap T x = -1 := by unfold a_tap; rw [if_neg (by rw [c_2]; decide)]
    rw [e0] at hQ
    try dsimp only at hQ
    exact hQ _ ⟨hB, ⟨hT.1, hT.2.1, hT.2.2.1, hT.2.2.2⟩, hok, hU, ⟨_, _, _, ⟨hM.1, hM.2.1, hM.2.2⟩, hp⟩, hP, hS, hG, hI, hK, hH⟩ sm.rf
