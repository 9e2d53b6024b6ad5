set_option maxRecDepth 100000 in
set_option maxHeartbeats 4000000 in
theorem f_X6_feed {G : gb_G} (hW : gW G) {Q : Option Value → gb_M → Prop} {mM : gb_M} {T : Tw} {im : Nat → Tw} {kp : Nat → Bool} {bs : Nat → Nat} {ln fa : Nat} {st sf : Nat → Nat} {sn : Nat} {sh : Sh} {sc : Nat → Nat → Int32} {tn : Nat} (hC : isCW G mM T im kp bs ln fa st sf sn sh sc tn) {c : Int32}  (hQ : ∀ M', isCW G M' T im kp ((s_feed bs ln c).1) ((s_feed bs ln c).2) fa st sf sn sh sc tn → sm mM M' 0 48 → Q (some (.int (a_feed ln c))) M') : Fn G 1 yX6_feed cX6_feed 2 (some .int) [.ref (gb_ad G 0), .int (c)] mM Q := by
  obtain ⟨hB, hT, hok, hU, hMx, hP, hS, hG, hI, hK, hH⟩ := hC
  have ok := hok.1
  have hn4 := ok.1
  have hst9 := hok.2.1
  have hln := hok.2.2.2.1
  have hsn6 := hok.2.2.2.2.2.2.1
  obtain ⟨pl, so, sa, nu, hP, hPb⟩ := hP
  have hN := hW.2.2.1
  refine Fn.of hW.1 [(0, .ref (gb_ad G 0)), (1, .int (c))] (by decide) (Nat.le_of_ble_eq_true rfl) rfl ?_
  intro X O
  refine w_iload_n (n := 1) O dX6_feed_0 rfl rfl rfl ?_
  refine w_iconst (n := 2) O dX6_feed_1 (v := (nI 0)) (by decide) rfl ?_
  refine w_bipush (n := 4) O dX6_feed_2 (v := (nI 127)) (by decide) rfl ?_
  refine w_cS (n := 7) (ro := some (.int (bI (wIn (c) (nI (0)) (nI (127)))))) (R := fun mM' => mM = mM') (st := []) (st1 := [.int (bI (wIn (c) (nI (0)) (nI (127))))]) (As := [.int (c), .int (nI 0), .int (nI 127)]) O dX6_feed_4 ul_X6_66 um_X6_within (f_X6_within hW ⟨rfl, rfl⟩) rfl rfl rfl (by decide) (Nat.le_of_ble_eq_true rfl) rfl (fun mhM_1 hM_1 => ?_)
  subst hM_1
  refine w_if_neB (n := 10) (tgt := 12) O dX6_feed_7 (by decide) rfl (fun c_2 => ?_) (fun c_2 => ?_)
  · skip
    have hr_j := c_2
    obtain ⟨j, ja, jb, rfl⟩ := wIn_t (by omega) c_2 (by omega)
    have cl_j : (nI j).toNatClampNeg = j := nI_clamp (by omega)
    refine w_aload_n (n := 13) O dX6_feed_12 rfl rfl rfl ?_
    refine w_getf (n := 16) O 3 dX6_feed_13 (by omega) hB rfl (by decide) uX6 uf_X6_29 rfl rfl ?_
    refine w_getf (n := 19) O 1 dX6_feed_16 (by omega) hP.1 rfl (by decide) uX4 uf_X6_70 rfl rfl ?_
    refine w_sipush (n := 22) O dX6_feed_19 (v := (nI 160)) (by decide) rfl ?_
    refine w_icmp_ltN (n := 25) (tgt := 28) O dX6_feed_22 (by omega) (by omega) (by decide) rfl (fun c_3 => ?_) (fun c_3 => ?_)
    · skip
      refine w_aload_n (n := 29) O dX6_feed_28 rfl rfl rfl ?_
      refine w_getf (n := 32) O 3 dX6_feed_29 (by omega) hB rfl (by decide) uX6 uf_X6_29 rfl rfl ?_
      refine w_getf (n := 35) O 0 dX6_feed_32 (by omega) hP.1 rfl (by decide) uX4 uf_X6_73 rfl rfl ?_
      refine w_aload_n (n := 36) O dX6_feed_35 rfl rfl rfl ?_
      refine w_getf (n := 39) O 3 dX6_feed_36 (by omega) hB rfl (by decide) uX6 uf_X6_29 rfl rfl ?_
      refine w_getf (n := 42) O 1 dX6_feed_39 (by omega) hP.1 rfl (by decide) uX4 uf_X6_70 rfl rfl ?_
      refine w_iload_n (n := 43) O dX6_feed_42 rfl rfl rfl ?_
      refine w_iastN (n := 44) O dX6_feed_43 hW.2.1 (by omega) hP.2 (by omega) (by decide) rfl ?_
      refine w_aload_n (n := 45) O dX6_feed_44 rfl rfl rfl ?_
      refine w_getf (n := 48) O 3 dX6_feed_45 (by omega) ((va_up_ne _ _ (by decide)).trans hB) rfl (by decide) uX6 uf_X6_29 rfl rfl ?_
      refine w_dup (n := 49) O dX6_feed_48 rfl rfl ?_
      refine w_getf (n := 52) O 1 dX6_feed_49 (by omega) ((va_up_ne _ _ (by decide)).trans hP.1) rfl (by decide) uX4 uf_X6_70 rfl rfl ?_
      refine w_iconst (n := 53) O dX6_feed_52 (v := (nI 1)) (by decide) rfl ?_
      refine w_iaddN (n := 54) O dX6_feed_53 rfl ?_
      refine w_putf (n := 57) (fs' := [.ref (gb_ad G 13), .int (nI ((ln + 1))), .int (nI (pl)), .int (nI (so)), .int (nI (sa)), .int (nI (nu))]) O 1 dX6_feed_54 (by omega) ((va_up_ne _ _ (by decide)).trans hP.1) rfl (by decide) uX4 uf_X6_70 tyX4 tyX4_ok nmX4 rfl rfl rfl (Nat.le_of_ble_eq_true rfl) rfl rfl ?_
      refine w_aload_n (n := 58) O dX6_feed_57 rfl rfl rfl ?_
      refine w_getf (n := 61) O 3 dX6_feed_58 (by omega) ((va_up_ne _ _ (by decide)).trans ((va_up_ne _ _ (by decide)).trans hB)) rfl (by decide) uX6 uf_X6_29 rfl rfl ?_
      refine w_getf (n := 64) O 1 dX6_feed_61 (by omega) (va_up_self _ _ _) rfl (by decide) uX4 uf_X6_70 rfl rfl ?_
      refine w_iret O dX6_feed_64 ?_
      have e0 : a_feed ln (nI j) = nI (ln + 1) := by simp [a_feed, hr_j, show ¬ ln = 160 by omega]
      have e1 : s_feed bs ln (nI j) = (upN bs ln j, ln + 1) := by simp [s_feed, hr_j, show ¬ ln = 160 by omega, cl_j]
      rw [e0, e1] at hQ
      try dsimp only at hQ
      exact hQ _ ⟨((va_up_ne _ _ (by decide)).trans ((va_up_ne _ _ (by decide)).trans hB)), ⟨((va_up_ne _ _ (by decide)).trans ((va_up_ne _ _ (by decide)).trans hT.1)), ((va_up_ne _ _ (by decide)).trans ((va_up_ne _ _ (by decide)).trans hT.2.1)), ((va_up_ne _ _ (by decide)).trans ((va_up_ne _ _ (by decide)).trans hT.2.2.1)), ((va_up_ne _ _ (by decide)).trans ((va_up_ne _ _ (by decide)).trans hT.2.2.2))⟩, ⟨hok.1, hok.2.1, hok.2.2.1, by omega, fun k hk => by show upN bs ln j k ≤ 127; unfold upN; split; exact jb; exact hok.2.2.2.2.1 k (by omega), hok.2.2.2.2.2⟩, ((hU.kp (kp_up (by omega))).kp (kp_up (by omega))), ((hMx.kp (kp_up (by omega))).kp (kp_up (by omega))), ⟨_, _, _, _, ⟨(va_up_self _ _ _), ((va_up_ne _ _ (by decide)).trans (va_up_self _ _ _))⟩, hPb⟩, ((hS.kp (kp_up (by omega))).kp (kp_up (by omega))), ((hG.kp (kp_up (by omega))).kp (kp_up (by omega))), ((hI.kp (kp_up (by omega))).kp (kp_up (by omega))), ((va_up_ne _ _ (by decide)).trans ((va_up_ne _ _ (by decide)).trans hK)), ((hH.kp (kp_up (by omega))).kp (kp_up (by omega)))⟩ ((sm.rf.up (by omega) (by omega)).up (by omega) (by omega))
    · skip
      refine w_bipush (n := 27) O dX6_feed_25 (v := (-3)) (by decide) rfl ?_
      refine w_iret O dX6_feed_27 ?_
      have e0 : a_feed ln (nI j) = -3 := by simp [a_feed, hr_j, show ln = 160 by omega]
      have e1 : s_feed bs ln (nI j) = (bs, ln) := by simp [s_feed, show ln = 160 by omega]
      rw [e0, e1] at hQ
      try dsimp only at hQ
      exact hQ _ ⟨hB, ⟨hT.1, hT.2.1, hT.2.2.1, hT.2.2.2⟩, hok, hU, hMx, ⟨_, _, _, _, ⟨hP.1, hP.2⟩, hPb⟩, hS, hG, hI, hK, hH⟩ sm.rf
  · skip
    refine w_iconst (n := 11) O dX6_feed_10 (v := (-1)) (by decide) rfl ?_
    refine w_iret O dX6_feed_11 ?_
    have e0 : a_feed ln c = -1 := by simp [a_feed, c_2]
    have e1 : s_feed bs ln c = (bs, ln) := by simp [s_feed, c_2]
    rw [e0, e1] at hQ
    try dsimp only at hQ
    exact hQ _ ⟨hB, ⟨hT.1, hT.2.1, hT.2.2.1, hT.2.2.2⟩, hok, hU, hMx, ⟨_, _, _, _, ⟨hP.1, hP.2⟩, hPb⟩, hS, hG, hI, hK, hH⟩ sm.rf
set_option maxRecDepth 100000 in
set_option maxHeartbeats 4000000 in
theorem f_X6_end {G : gb_G} (hW : gW G) {Q : Option Value → gb_M → Prop} {mM : gb_M} {T : Tw} {im : Nat → Tw} {kp : Nat → Bool} {bs : Nat → Nat} {ln fa : Nat} {st sf : Nat → Nat} {sn : Nat} {sh : Sh} {sc : Nat → Nat → Int32} {tn : Nat} (hC : isCW G mM T im kp bs ln fa st sf sn sh sc tn) {c : Int32}  (hQ : ∀ M', isCW G M' T im kp bs (s_end ln c) fa st sf sn sh sc tn → sm mM M' 0 48 → Q (some (.int (a_end ln c))) M') : Fn G 1 yX6_end cX6_end 3 (some .int) [.ref (gb_ad G 0), .int (c)] mM Q := by
  obtain ⟨hB, hT, hok, hU, hMx, hP, hS, hG, hI, hK, hH⟩ := hC
  have ok := hok.1
  have hn4 := ok.1
  have hst9 := hok.2.1
  have hln := hok.2.2.2.1
  have hsn6 := hok.2.2.2.2.2.2.1
  obtain ⟨pl, so, sa, nu, hP, hPb⟩ := hP
  have hN := hW.2.2.1
  refine Fn.of hW.1 [(0, .ref (gb_ad G 0)), (1, .int (c))] (by decide) (Nat.le_of_ble_eq_true rfl) rfl ?_
  intro X O
  refine w_iload_n (n := 1) O dX6_end_0 rfl rfl rfl ?_
  refine w_iconst (n := 2) O dX6_end_1 (v := (nI 0)) (by decide) rfl ?_
  refine w_aload_n (n := 3) O dX6_end_2 rfl rfl rfl ?_
  refine w_getf (n := 6) O 3 dX6_end_3 (by omega) hB rfl (by decide) uX6 uf_X6_29 rfl rfl ?_
  refine w_getf (n := 9) O 1 dX6_end_6 (by omega) hP.1 rfl (by decide) uX4 uf_X6_70 rfl rfl ?_
  refine w_cS (n := 12) (ro := some (.int (bI (wIn (c) (nI (0)) (nI (ln)))))) (R := fun mM' => mM = mM') (st := []) (st1 := [.int (bI (wIn (c) (nI (0)) (nI (ln))))]) (As := [.int (c), .int (nI 0), .int (nI (ln))]) O dX6_end_9 ul_X6_66 um_X6_within (f_X6_within hW ⟨rfl, rfl⟩) rfl rfl rfl (by decide) (Nat.le_of_ble_eq_true rfl) rfl (fun mhM_1 hM_1 => ?_)
  subst hM_1
  refine w_if_neB (n := 15) (tgt := 17) O dX6_end_12 (by decide) rfl (fun c_2 => ?_) (fun c_2 => ?_)
  · skip
    have hr_j := c_2
    obtain ⟨j, ja, jb, rfl⟩ := wIn_t (by omega) c_2 (by omega)
    have cl_j : (nI j).toNatClampNeg = j := nI_clamp (by omega)
    refine w_aload_n (n := 18) O dX6_end_17 rfl rfl rfl ?_
    refine w_getf (n := 21) O 3 dX6_end_18 (by omega) hB rfl (by decide) uX6 uf_X6_29 rfl rfl ?_
    refine w_getf (n := 24) O 1 dX6_end_21 (by omega) hP.1 rfl (by decide) uX4 uf_X6_70 rfl rfl ?_
    refine w_istore_n (n := 25) (lv' := [(2, .int (nI (ln))), (0, .ref (gb_ad G 0)), (1, .int (nI (j)))]) O dX6_end_24 rfl (by decide) rfl rfl ?_
    refine w_aload_n (n := 26) O dX6_end_25 rfl rfl rfl ?_
    refine w_getf (n := 29) O 3 dX6_end_26 (by omega) hB rfl (by decide) uX6 uf_X6_29 rfl rfl ?_
    refine w_iload_n (n := 30) O dX6_end_29 rfl rfl rfl ?_
    refine w_putf (n := 33) (fs' := [.ref (gb_ad G 13), .int (nI (j)), .int (nI (pl)), .int (nI (so)), .int (nI (sa)), .int (nI (nu))]) O 1 dX6_end_30 (by omega) hP.1 rfl (by decide) uX4 uf_X6_70 tyX4 tyX4_ok nmX4 rfl rfl rfl (Nat.le_of_ble_eq_true rfl) rfl rfl ?_
    refine w_iload_n (n := 34) O dX6_end_33 rfl rfl rfl ?_
    refine w_iret O dX6_end_34 ?_
    have e0 : a_end ln (nI j) = nI ln := by simp [a_end, hr_j]
    have e1 : s_end ln (nI j) = j := by simp [s_end, hr_j, cl_j]
    rw [e0, e1] at hQ
    try dsimp only at hQ
    exact hQ _ ⟨((va_up_ne _ _ (by decide)).trans hB), ⟨((va_up_ne _ _ (by decide)).trans hT.1), ((va_up_ne _ _ (by decide)).trans hT.2.1), ((va_up_ne _ _ (by decide)).trans hT.2.2.1), ((va_up_ne _ _ (by decide)).trans hT.2.2.2)⟩, ⟨hok.1, hok.2.1, hok.2.2.1, by omega, fun k hk => hok.2.2.2.2.1 k (by omega), hok.2.2.2.2.2⟩, (hU.kp (kp_up (by omega))), (hMx.kp (kp_up (by omega))), ⟨_, _, _, _, ⟨(va_up_self _ _ _), ((va_up_ne _ _ (by decide)).trans hP.2)⟩, hPb⟩, (hS.kp (kp_up (by omega))), (hG.kp (kp_up (by omega))), (hI.kp (kp_up (by omega))), ((va_up_ne _ _ (by decide)).trans hK), (hH.kp (kp_up (by omega)))⟩ (sm.rf.up (by omega) (by omega))
  · skip
    refine w_iconst (n := 16) O dX6_end_15 (v := (-1)) (by decide) rfl ?_
    refine w_iret O dX6_end_16 ?_
    have e0 : a_end ln c = -1 := by simp [a_end, c_2]
    have e1 : s_end ln c = ln := by simp [s_end, c_2]
    rw [e0, e1] at hQ
    try dsimp only at hQ
    exact hQ _ ⟨hB, ⟨hT.1, hT.2.1, hT.2.2.1, hT.2.2.2⟩, hok, hU, hMx, ⟨_, _, _, _, ⟨hP.1, hP.2⟩, hPb⟩, hS, hG, hI, hK, hH⟩ sm.rf
set_option maxRecDepth 100000 in
set_option maxHeartbeats 4000000 in
theorem f_X6_fault {G : gb_G} (hW : gW G) {Q : Option Value → gb_M → Prop} {mM : gb_M} {T : Tw} {im : Nat → Tw} {kp : Nat → Bool} {bs : Nat → Nat} {ln fa : Nat} {st sf : Nat → Nat} {sn : Nat} {sh : Sh} {sc : Nat → Nat → Int32} {tn : Nat} (hC : isCW G mM T im kp bs ln fa st sf sn sh sc tn)  (hQ : ∀ M', isCW G M' T im kp bs ln fa st sf sn sh sc tn → sm mM M' 0 48 → Q (some (.int (nI fa))) M') : Fn G 0 yX6_fault cX6_fault 1 (some .int) [.ref (gb_ad G 0)] mM Q := by
  obtain ⟨hB, hT, hok, hU, hMx, hP, hS, hG, hI, hK, hH⟩ := hC
  have ok := hok.1
  have hn4 := ok.1
  have hst9 := hok.2.1
  have hln := hok.2.2.2.1
  have hsn6 := hok.2.2.2.2.2.2.1
  obtain ⟨fp, s1, s2, s3, s4, V, hS, hV⟩ := hS
  have hN := hW.2.2.1
  refine Fn.of hW.1 [(0, .ref (gb_ad G 0))] (by decide) (Nat.le_of_ble_eq_true rfl) rfl ?_
  intro X O
  refine w_aload_n (n := 1) O dX6_fault_0 rfl rfl rfl ?_
  refine w_getf (n := 4) O 4 dX6_fault_1 (by omega) hB rfl (by decide) uX6 uf_X6_36 rfl rfl ?_
  refine w_getf (n := 7) O 1 dX6_fault_4 (by omega) hS rfl (by decide) uX2 uf_X6_81 rfl rfl ?_
  refine w_iret O dX6_fault_7 ?_
  exact hQ _ ⟨hB, ⟨hT.1, hT.2.1, hT.2.2.1, hT.2.2.2⟩, hok, hU, hMx, hP, ⟨_, _, _, _, _, V, hS, ⟨hV.1, hV.2.1, hV.2.2.1, hV.2.2.2⟩⟩, hG, hI, hK, hH⟩ sm.rf
set_option maxRecDepth 100000 in
set_option maxHeartbeats 4000000 in
theorem f_X6_torn {G : gb_G} (hW : gW G) {Q : Option Value → gb_M → Prop} {mM : gb_M} {T : Tw} {im : Nat → Tw} {kp : Nat → Bool} {bs : Nat → Nat} {ln fa : Nat} {st sf : Nat → Nat} {sn : Nat} {sh : Sh} {sc : Nat → Nat → Int32} {tn : Nat} (hC : isCW G mM T im kp bs ln fa st sf sn sh sc tn)  (hQ : ∀ M', isCW G M' T im kp bs ln fa st sf sn sh sc tn → sm mM M' 0 48 → Q (some (.int (nI tn))) M') : Fn G 0 yX6_torn cX6_torn 1 (some .int) [.ref (gb_ad G 0)] mM Q := by
  obtain ⟨hB, hT, hok, hU, hMx, hP, hS, hG, hI, hK, hH⟩ := hC
  have ok := hok.1
  have hn4 := ok.1
  have hst9 := hok.2.1
  have hln := hok.2.2.2.1
  have hsn6 := hok.2.2.2.2.2.2.1
  have hN := hW.2.2.1
  refine Fn.of hW.1 [(0, .ref (gb_ad G 0))] (by decide) (Nat.le_of_ble_eq_true rfl) rfl ?_
  intro X O
  refine w_aload_n (n := 1) O dX6_torn_0 rfl rfl rfl ?_
  refine w_getf (n := 4) O 9 dX6_torn_1 (by omega) hB rfl (by decide) uX6 uf_X6_62 rfl rfl ?_
  refine w_iret O dX6_torn_4 ?_
  exact hQ _ ⟨hB, ⟨hT.1, hT.2.1, hT.2.2.1, hT.2.2.2⟩, hok, hU, hMx, hP, hS, hG, hI, hK, hH⟩ sm.rf
