set_option maxRecDepth 100000 in
set_option maxHeartbeats 4000000 in
theorem f_X7_feed {G : gb_G} (hW : gW G) {Q : Option Value → gb_M → Prop} {mM : gb_M} {T : Tw} {im : Nat → Tw} {kp : Nat → Bool} {bs : Nat → Nat} {ln fa : Nat} {st sf : Nat → Nat} {sn : Nat} {sh : Sh} {sc : Nat → Nat → Int32} {tn : Nat} (hok : okS T im kp bs ln fa st sf sn sh tn) (hM : isMW G mM T im kp bs ln fa st sf sn sh sc tn) {c : Int32}  (hQ : ∀ M', isMW G M' T im kp ((s_feed bs ln c).1) ((s_feed bs ln c).2) fa st sf sn sh sc tn → sm mM M' 49 60 → Q (some (.int (a_feed ln c))) M') : Fn G 1 yX7_feed cX7_feed 2 (some .int) [.ref (gb_ad G 49), .int (c)] mM Q := by
  obtain ⟨s, se, le, rp, te, la, ce, tm, x3, x4, x5, x6, x7, x11, x12, x13, x14, x15, x16, x26, h49, h50, h51, h52, h53, h54, h55, h56, h57, h58, h59, h60, htm, hpg, hIm, hSe, hLa, hLe, hCe⟩ := hM
  have ok := hok.1
  have hn4 := ok.1
  have hst9 := hok.2.1
  have hln := hok.2.2.2.1
  have hsn6 := hok.2.2.2.2.2.2.1
  have hN := hW.2.2.1
  refine Fn.of hW.1 [(0, .ref (gb_ad G 49)), (1, .int (c))] (by decide) (Nat.le_of_ble_eq_true rfl) rfl ?_
  intro X O
  refine w_iload_n (n := 1) O dX7_feed_0 rfl rfl rfl ?_
  refine w_i2l (n := 2) O dX7_feed_1 rfl ?_
  refine w_lconst (n := 3) O dX7_feed_2 (v := lN 0) (by decide) rfl ?_
  refine w_ldc2 (n := 6) O dX7_feed_3 uc_X7_48 rfl ?_
  refine w_topl (lN 127) (by decide) ?_
  refine w_cS (n := 9) (ro := some (.int (bI (wIn (c) (nI 0) (nI 127))))) (R := fun mM' => mM = mM') (st := []) (st1 := [.int (bI (wIn (c) (nI 0) (nI 127)))]) (As := [.long ((c).toInt64), .long (lN 0), .long (lN 127)]) O dX7_feed_6 ul_X7_50 um_X7_in (f_X7_in (x := (c)) (y := (nI 0)) (z := (nI 127)) hW rfl (nI_l (by decide)).symm (nI_l (by decide)).symm ⟨rfl, rfl⟩) rfl rfl rfl (by decide) (Nat.le_of_ble_eq_true rfl) rfl (fun mhM_1 hM_1 => ?_)
  subst hM_1
  refine w_if_neB (n := 12) (tgt := 14) O dX7_feed_9 (by decide) rfl (fun c_2 => ?_) (fun c_2 => ?_)
  · skip
    have hr_j := c_2
    obtain ⟨j, ja, jb, rfl⟩ := wIn_t (by omega) c_2 (by omega)
    have cl_j : (nI j).toNatClampNeg = j := nI_clamp (by omega)
    refine w_aload_n (n := 15) O dX7_feed_14 rfl rfl rfl ?_
    refine w_getf (n := 18) O 9 dX7_feed_15 (by omega) h49 rfl (by decide) uX7 uf_X7_54 rfl rfl ?_
    refine w_sipush (n := 21) O dX7_feed_18 (v := (nI 160)) (by decide) rfl ?_
    refine w_icmp_neN (n := 24) (tgt := 27) O dX7_feed_21 (by omega) (by omega) (by decide) rfl (fun c_3 => ?_) (fun c_3 => ?_)
    · skip
      refine w_aload_n (n := 28) O dX7_feed_27 rfl rfl rfl ?_
      refine w_getf (n := 31) O 8 dX7_feed_28 (by omega) h49 rfl (by decide) uX7 uf_X7_16 rfl rfl ?_
      refine w_aload_n (n := 32) O dX7_feed_31 rfl rfl rfl ?_
      refine w_getf (n := 35) O 9 dX7_feed_32 (by omega) h49 rfl (by decide) uX7 uf_X7_54 rfl rfl ?_
      refine w_iload_n (n := 36) O dX7_feed_35 rfl rfl rfl ?_
      refine w_iastN (n := 37) O dX7_feed_36 hW.2.1 (by omega) h52 (by omega) (by decide) rfl ?_
      refine w_aload_n (n := 38) O dX7_feed_37 rfl rfl rfl ?_
      refine w_dup (n := 39) O dX7_feed_38 rfl rfl ?_
      refine w_getf (n := 42) O 9 dX7_feed_39 (by omega) ((va_up_ne _ _ (by decide)).trans h49) rfl (by decide) uX7 uf_X7_54 rfl rfl ?_
      refine w_iconst (n := 43) O dX7_feed_42 (v := (nI 1)) (by decide) rfl ?_
      refine w_iaddN (n := 44) O dX7_feed_43 rfl ?_
      refine w_putf (n := 47) (fs' := [.ref (gb_ad G 50), .int (nI (T.2.2.2.1)), .ref (gb_ad G 51), .int (x3), .int (x4), .int (x5), .int (x6), .int (x7), .ref (gb_ad G 52), .int (nI ((ln + 1))), .int (nI (fa)), .int (x11), .int (x12), .int (x13), .int (x14), .int (x15), .int (x16), .ref (gb_ad G 53), .ref (gb_ad G 54), .int (nI 0), .int (nI 0), .int (oI none), .int (nI (tm)), .ref (gb_ad G 55), .int (nI (sn)), .ref (gb_ad G 56), .int (x26), .ref (gb_ad G 57), .ref (gb_ad G 58), .ref (gb_ad G 59), .ref (gb_ad G 60), .int (nI (tn))]) O 9 dX7_feed_44 (by omega) ((va_up_ne _ _ (by decide)).trans h49) rfl (by decide) uX7 uf_X7_54 tyX7 tyX7_ok nmX7 rfl rfl rfl (Nat.le_of_ble_eq_true rfl) rfl rfl ?_
      refine w_aload_n (n := 48) O dX7_feed_47 rfl rfl rfl ?_
      refine w_getf (n := 51) O 9 dX7_feed_48 (by omega) (va_up_self _ _ _) rfl (by decide) uX7 uf_X7_54 rfl rfl ?_
      refine w_iret O dX7_feed_51 ?_
      have e0 : a_feed ln (nI j) = nI (ln + 1) := by simp [a_feed, hr_j, show ¬ ln = 160 by omega]
      have e1 : s_feed bs ln (nI j) = (upN bs ln j, ln + 1) := by simp [s_feed, hr_j, show ¬ ln = 160 by omega, cl_j]
      rw [e0, e1] at hQ
      try dsimp only at hQ
      exact hQ ((va_up (va_up mM (52) (IN G 160 (upN (bs) (ln) (j)))) (49) (.inr (7, [.ref (gb_ad G 50), .int (nI (T.2.2.2.1)), .ref (gb_ad G 51), .int (x3), .int (x4), .int (x5), .int (x6), .int (x7), .ref (gb_ad G 52), .int (nI ((ln + 1))), .int (nI (fa)), .int (x11), .int (x12), .int (x13), .int (x14), .int (x15), .int (x16), .ref (gb_ad G 53), .ref (gb_ad G 54), .int (nI 0), .int (nI 0), .int (oI none), .int (nI (tm)), .ref (gb_ad G 55), .int (nI (sn)), .ref (gb_ad G 56), .int (x26), .ref (gb_ad G 57), .ref (gb_ad G 58), .ref (gb_ad G 59), .ref (gb_ad G 60), .int (nI (tn))])))) ⟨_, _, _, _, _, _, _, _, _, _, _, _, _, _, _, _, _, _, _, _, (va_up_self _ _ _), ((va_up_ne _ _ (by decide)).trans ((va_up_ne _ _ (by decide)).trans h50)), ((va_up_ne _ _ (by decide)).trans ((va_up_ne _ _ (by decide)).trans h51)), ((va_up_ne _ _ (by decide)).trans (va_up_self _ _ _)), ((va_up_ne _ _ (by decide)).trans ((va_up_ne _ _ (by decide)).trans h53)), ((va_up_ne _ _ (by decide)).trans ((va_up_ne _ _ (by decide)).trans h54)), ((va_up_ne _ _ (by decide)).trans ((va_up_ne _ _ (by decide)).trans h55)), ((va_up_ne _ _ (by decide)).trans ((va_up_ne _ _ (by decide)).trans h56)), ((va_up_ne _ _ (by decide)).trans ((va_up_ne _ _ (by decide)).trans h57)), ((va_up_ne _ _ (by decide)).trans ((va_up_ne _ _ (by decide)).trans h58)), ((va_up_ne _ _ (by decide)).trans ((va_up_ne _ _ (by decide)).trans h59)), ((va_up_ne _ _ (by decide)).trans ((va_up_ne _ _ (by decide)).trans h60)), htm, hpg, hIm, hSe, hLa, hLe, hCe⟩ ((sm.rf.up (by omega) (by omega)).up (by omega) (by omega))
    · skip
      refine w_bipush (n := 26) O dX7_feed_24 (v := (-3)) (by decide) rfl ?_
      refine w_iret O dX7_feed_26 ?_
      have e0 : a_feed ln (nI j) = -3 := by simp [a_feed, hr_j, show ln = 160 by omega]
      have e1 : s_feed bs ln (nI j) = (bs, ln) := by simp [s_feed, show ln = 160 by omega]
      rw [e0, e1] at hQ
      try dsimp only at hQ
      exact hQ (mM) ⟨_, _, _, _, _, _, _, _, _, _, _, _, _, _, _, _, _, _, _, _, h49, h50, h51, h52, h53, h54, h55, h56, h57, h58, h59, h60, htm, hpg, hIm, hSe, hLa, hLe, hCe⟩ sm.rf
  · skip
    refine w_iconst (n := 13) O dX7_feed_12 (v := (-1)) (by decide) rfl ?_
    refine w_iret O dX7_feed_13 ?_
    have e0 : a_feed ln c = -1 := by simp [a_feed, c_2]
    have e1 : s_feed bs ln c = (bs, ln) := by simp [s_feed, c_2]
    rw [e0, e1] at hQ
    try dsimp only at hQ
    exact hQ (mM) ⟨_, _, _, _, _, _, _, _, _, _, _, _, _, _, _, _, _, _, _, _, h49, h50, h51, h52, h53, h54, h55, h56, h57, h58, h59, h60, htm, hpg, hIm, hSe, hLa, hLe, hCe⟩ sm.rf
set_option maxRecDepth 100000 in
set_option maxHeartbeats 4000000 in
theorem f_X7_end {G : gb_G} (hW : gW G) {Q : Option Value → gb_M → Prop} {mM : gb_M} {T : Tw} {im : Nat → Tw} {kp : Nat → Bool} {bs : Nat → Nat} {ln fa : Nat} {st sf : Nat → Nat} {sn : Nat} {sh : Sh} {sc : Nat → Nat → Int32} {tn : Nat} (hok : okS T im kp bs ln fa st sf sn sh tn) (hM : isMW G mM T im kp bs ln fa st sf sn sh sc tn) {c : Int32}  (hQ : ∀ M', isMW G M' T im kp bs (s_end ln c) fa st sf sn sh sc tn → sm mM M' 49 60 → Q (some (.int (a_end ln c))) M') : Fn G 1 yX7_end cX7_end 3 (some .int) [.ref (gb_ad G 49), .int (c)] mM Q := by
  obtain ⟨s, se, le, rp, te, la, ce, tm, x3, x4, x5, x6, x7, x11, x12, x13, x14, x15, x16, x26, h49, h50, h51, h52, h53, h54, h55, h56, h57, h58, h59, h60, htm, hpg, hIm, hSe, hLa, hLe, hCe⟩ := hM
  have ok := hok.1
  have hn4 := ok.1
  have hst9 := hok.2.1
  have hln := hok.2.2.2.1
  have hsn6 := hok.2.2.2.2.2.2.1
  have hN := hW.2.2.1
  refine Fn.of hW.1 [(0, .ref (gb_ad G 49)), (1, .int (c))] (by decide) (Nat.le_of_ble_eq_true rfl) rfl ?_
  intro X O
  refine w_iload_n (n := 1) O dX7_end_0 rfl rfl rfl ?_
  refine w_i2l (n := 2) O dX7_end_1 rfl ?_
  refine w_lconst (n := 3) O dX7_end_2 (v := lN 0) (by decide) rfl ?_
  refine w_aload_n (n := 4) O dX7_end_3 rfl rfl rfl ?_
  refine w_getf (n := 7) O 9 dX7_end_4 (by omega) h49 rfl (by decide) uX7 uf_X7_54 rfl rfl ?_
  refine w_i2l (n := 8) O dX7_end_7 rfl ?_
  refine w_cS (n := 11) (ro := some (.int (bI (wIn (c) (nI 0) (nI (ln)))))) (R := fun mM' => mM = mM') (st := []) (st1 := [.int (bI (wIn (c) (nI 0) (nI (ln))))]) (As := [.long ((c).toInt64), .long (lN 0), .long ((nI (ln)).toInt64)]) O dX7_end_8 ul_X7_50 um_X7_in (f_X7_in (x := (c)) (y := (nI 0)) (z := (nI (ln))) hW rfl (nI_l (by decide)).symm rfl ⟨rfl, rfl⟩) rfl rfl rfl (by decide) (Nat.le_of_ble_eq_true rfl) rfl (fun mhM_1 hM_1 => ?_)
  subst hM_1
  refine w_if_neB (n := 14) (tgt := 16) O dX7_end_11 (by decide) rfl (fun c_2 => ?_) (fun c_2 => ?_)
  · skip
    have hr_j := c_2
    obtain ⟨j, ja, jb, rfl⟩ := wIn_t (by omega) c_2 (by omega)
    have cl_j : (nI j).toNatClampNeg = j := nI_clamp (by omega)
    refine w_aload_n (n := 17) O dX7_end_16 rfl rfl rfl ?_
    refine w_getf (n := 20) O 9 dX7_end_17 (by omega) h49 rfl (by decide) uX7 uf_X7_54 rfl rfl ?_
    refine w_istore_n (n := 21) (lv' := [(2, .int (nI (ln))), (0, .ref (gb_ad G 49)), (1, .int (nI (j)))]) O dX7_end_20 rfl (by decide) rfl rfl ?_
    refine w_aload_n (n := 22) O dX7_end_21 rfl rfl rfl ?_
    refine w_iload_n (n := 23) O dX7_end_22 rfl rfl rfl ?_
    refine w_putf (n := 26) (fs' := [.ref (gb_ad G 50), .int (nI (T.2.2.2.1)), .ref (gb_ad G 51), .int (x3), .int (x4), .int (x5), .int (x6), .int (x7), .ref (gb_ad G 52), .int (nI (j)), .int (nI (fa)), .int (x11), .int (x12), .int (x13), .int (x14), .int (x15), .int (x16), .ref (gb_ad G 53), .ref (gb_ad G 54), .int (nI 0), .int (nI 0), .int (oI none), .int (nI (tm)), .ref (gb_ad G 55), .int (nI (sn)), .ref (gb_ad G 56), .int (x26), .ref (gb_ad G 57), .ref (gb_ad G 58), .ref (gb_ad G 59), .ref (gb_ad G 60), .int (nI (tn))]) O 9 dX7_end_23 (by omega) h49 rfl (by decide) uX7 uf_X7_54 tyX7 tyX7_ok nmX7 rfl rfl rfl (Nat.le_of_ble_eq_true rfl) rfl rfl ?_
    refine w_iload_n (n := 27) O dX7_end_26 rfl rfl rfl ?_
    refine w_iret O dX7_end_27 ?_
    have e0 : a_end ln (nI j) = nI ln := by simp [a_end, hr_j]
    have e1 : s_end ln (nI j) = j := by simp [s_end, hr_j, cl_j]
    rw [e0, e1] at hQ
    try dsimp only at hQ
    exact hQ ((va_up mM (49) (.inr (7, [.ref (gb_ad G 50), .int (nI (T.2.2.2.1)), .ref (gb_ad G 51), .int (x3), .int (x4), .int (x5), .int (x6), .int (x7), .ref (gb_ad G 52), .int (nI (j)), .int (nI (fa)), .int (x11), .int (x12), .int (x13), .int (x14), .int (x15), .int (x16), .ref (gb_ad G 53), .ref (gb_ad G 54), .int (nI 0), .int (nI 0), .int (oI none), .int (nI (tm)), .ref (gb_ad G 55), .int (nI (sn)), .ref (gb_ad G 56), .int (x26), .ref (gb_ad G 57), .ref (gb_ad G 58), .ref (gb_ad G 59), .ref (gb_ad G 60), .int (nI (tn))])))) ⟨_, _, _, _, _, _, _, _, _, _, _, _, _, _, _, _, _, _, _, _, (va_up_self _ _ _), ((va_up_ne _ _ (by decide)).trans h50), ((va_up_ne _ _ (by decide)).trans h51), ((va_up_ne _ _ (by decide)).trans h52), ((va_up_ne _ _ (by decide)).trans h53), ((va_up_ne _ _ (by decide)).trans h54), ((va_up_ne _ _ (by decide)).trans h55), ((va_up_ne _ _ (by decide)).trans h56), ((va_up_ne _ _ (by decide)).trans h57), ((va_up_ne _ _ (by decide)).trans h58), ((va_up_ne _ _ (by decide)).trans h59), ((va_up_ne _ _ (by decide)).trans h60), htm, hpg, hIm, hSe, hLa, hLe, hCe⟩ (sm.rf.up (by omega) (by omega))
  · skip
    refine w_iconst (n := 15) O dX7_end_14 (v := (-1)) (by decide) rfl ?_
    refine w_iret O dX7_end_15 ?_
    have e0 : a_end ln c = -1 := by simp [a_end, c_2]
    have e1 : s_end ln c = ln := by simp [s_end, c_2]
    rw [e0, e1] at hQ
    try dsimp only at hQ
    exact hQ (mM) ⟨_, _, _, _, _, _, _, _, _, _, _, _, _, _, _, _, _, _, _, _, h49, h50, h51, h52, h53, h54, h55, h56, h57, h58, h59, h60, htm, hpg, hIm, hSe, hLa, hLe, hCe⟩ sm.rf
set_option maxRecDepth 100000 in
set_option maxHeartbeats 4000000 in
theorem f_X7_fault {G : gb_G} (hW : gW G) {Q : Option Value → gb_M → Prop} {mM : gb_M} {T : Tw} {im : Nat → Tw} {kp : Nat → Bool} {bs : Nat → Nat} {ln fa : Nat} {st sf : Nat → Nat} {sn : Nat} {sh : Sh} {sc : Nat → Nat → Int32} {tn : Nat} (hok : okS T im kp bs ln fa st sf sn sh tn) (hM : isMW G mM T im kp bs ln fa st sf sn sh sc tn)  (hQ : ∀ M', isMW G M' T im kp bs ln fa st sf sn sh sc tn → sm mM M' 49 60 → Q (some (.int (nI fa))) M') : Fn G 0 yX7_fault cX7_fault 1 (some .int) [.ref (gb_ad G 49)] mM Q := by
  obtain ⟨s, se, le, rp, te, la, ce, tm, x3, x4, x5, x6, x7, x11, x12, x13, x14, x15, x16, x26, h49, h50, h51, h52, h53, h54, h55, h56, h57, h58, h59, h60, htm, hpg, hIm, hSe, hLa, hLe, hCe⟩ := hM
  have ok := hok.1
  have hn4 := ok.1
  have hst9 := hok.2.1
  have hln := hok.2.2.2.1
  have hsn6 := hok.2.2.2.2.2.2.1
  have hN := hW.2.2.1
  refine Fn.of hW.1 [(0, .ref (gb_ad G 49))] (by decide) (Nat.le_of_ble_eq_true rfl) rfl ?_
  intro X O
  refine w_aload_n (n := 1) O dX7_fault_0 rfl rfl rfl ?_
  refine w_getf (n := 4) O 10 dX7_fault_1 (by omega) h49 rfl (by decide) uX7 uf_X7_133 rfl rfl ?_
  refine w_iret O dX7_fault_4 ?_
  exact hQ (mM) ⟨_, _, _, _, _, _, _, _, _, _, _, _, _, _, _, _, _, _, _, _, h49, h50, h51, h52, h53, h54, h55, h56, h57, h58, h59, h60, htm, hpg, hIm, hSe, hLa, hLe, hCe⟩ sm.rf
set_option maxRecDepth 100000 in
set_option maxHeartbeats 4000000 in
theorem f_X7_torn {G : gb_G} (hW : gW G) {Q : Option Value → gb_M → Prop} {mM : gb_M} {T : Tw} {im : Nat → Tw} {kp : Nat → Bool} {bs : Nat → Nat} {ln fa : Nat} {st sf : Nat → Nat} {sn : Nat} {sh : Sh} {sc : Nat → Nat → Int32} {tn : Nat} (hok : okS T im kp bs ln fa st sf sn sh tn) (hM : isMW G mM T im kp bs ln fa st sf sn sh sc tn)  (hQ : ∀ M', isMW G M' T im kp bs ln fa st sf sn sh sc tn → sm mM M' 49 60 → Q (some (.int (nI tn))) M') : Fn G 0 yX7_torn cX7_torn 1 (some .int) [.ref (gb_ad G 49)] mM Q := by
  obtain ⟨s, se, le, rp, te, la, ce, tm, x3, x4, x5, x6, x7, x11, x12, x13, x14, x15, x16, x26, h49, h50, h51, h52, h53, h54, h55, h56, h57, h58, h59, h60, htm, hpg, hIm, hSe, hLa, hLe, hCe⟩ := hM
  have ok := hok.1
  have hn4 := ok.1
  have hst9 := hok.2.1
  have hln := hok.2.2.2.1
  have hsn6 := hok.2.2.2.2.2.2.1
  have hN := hW.2.2.1
  refine Fn.of hW.1 [(0, .ref (gb_ad G 49))] (by decide) (Nat.le_of_ble_eq_true rfl) rfl ?_
  intro X O
  refine w_aload_n (n := 1) O dX7_torn_0 rfl rfl rfl ?_
  refine w_getf (n := 4) O 31 dX7_torn_1 (by omega) h49 rfl (by decide) uX7 uf_X7_268 rfl rfl ?_
  refine w_iret O dX7_torn_4 ?_
  exact hQ (mM) ⟨_, _, _, _, _, _, _, _, _, _, _, _, _, _, _, _, _, _, _, _, h49, h50, h51, h52, h53, h54, h55, h56, h57, h58, h59, h60, htm, hpg, hIm, hSe, hLa, hLe, hCe⟩ sm.rf
set_option maxRecDepth 100000 in
set_option maxHeartbeats 4000000 in
theorem f_X7_rule {G : gb_G} (hW : gW G) {Q : Option Value → gb_M → Prop} {mM : gb_M} {T : Tw} {im : Nat → Tw} {kp : Nat → Bool} {bs : Nat → Nat} {ln fa : Nat} {st sf : Nat → Nat} {sn : Nat} {sh : Sh} {sc : Nat → Nat → Int32} {tn : Nat} (hok : okS T im kp bs ln fa st sf sn sh tn) (hM : isMW G mM T im kp bs ln fa st sf sn sh sc tn) {x : Int32}  (hQ : ∀ M', isMW G M' T im kp bs ln fa st sf sn sh sc tn → sm mM M' 49 60 → Q (some (.int (a_rule T x))) M') : Fn G 2 yX7_rule cX7_rule 2 (some .int) [.ref (gb_ad G 49), .int (x)] mM Q := by
  obtain ⟨s, se, le, rp, te, la, ce, tm, x3, x4, x5, x6, x7, x11, x12, x13, x14, x15, x16, x26, h49, h50, h51, h52, h53, h54, h55, h56, h57, h58, h59, h60, htm, hpg, hIm, hSe, hLa, hLe, hCe⟩ := hM
  have ok := hok.1
  have hn4 := ok.1
  have hst9 := hok.2.1
  have hln := hok.2.2.2.1
  have hsn6 := hok.2.2.2.2.2.2.1
  have hN := hW.2.2.1
  refine Fn.of hW.1 [(0, .ref (gb_ad G 49)), (1, .int (x))] (by decide) (Nat.le_of_ble_eq_true rfl) rfl ?_
  intro X O
  refine w_iload_n (n := 1) O dX7_rule_0 rfl rfl rfl ?_
  rcases sw_in x 5 (by decide) with ⟨wsw_1, hwsw_1, hxsw_1⟩ | sw_1
  · rcases (show wsw_1 = 0 ∨ wsw_1 = 1 ∨ wsw_1 = 2 ∨ wsw_1 = 3 ∨ wsw_1 = 4 ∨ wsw_1 = 5 by omega) with rfl | rfl | rfl | rfl | rfl | rfl
    · skip
      subst hxsw_1
      refine w_tableIn (tgt := 40) O dX7_rule_1 (by decide) (by decide) rfl (by decide) ?_
      refine w_aload_n (n := 41) O dX7_rule_40 rfl rfl rfl ?_
      refine w_getf (n := 44) O 1 dX7_rule_41 (by omega) h49 rfl (by decide) uX7 uf_X7_136 rfl rfl ?_
      refine w_iret O dX7_rule_44 ?_
      have e0 : a_rule T (nI 0) = (nI (T.2.2.2.1)) := by unfold a_rule; rw [if_pos rfl]
      rw [e0] at hQ
      try dsimp only at hQ
      exact hQ (mM) ⟨_, _, _, _, _, _, _, _, _, _, _, _, _, _, _, _, _, _, _, _, h49, h50, h51, h52, h53, h54, h55, h56, h57, h58, h59, h60, htm, hpg, hIm, hSe, hLa, hLe, hCe⟩ sm.rf
    · skip
      subst hxsw_1
      refine w_tableIn (tgt := 45) O dX7_rule_1 (by decide) (by decide) rfl (by decide) ?_
      refine w_aload_n (n := 46) O dX7_rule_45 rfl rfl rfl ?_
      refine w_cV (n := 49) (ro := some (.int (nI (T.2.2.2.2.1)))) (R := fun mM' => mM = mM') (st := []) (st1 := [.int (nI (T.2.2.2.2.1))]) (As := []) (b := 49) O dX7_rule_46 ul_X7_144 um_X7_asked (f_X7_asked (s := s) (T := T) (lo := 0) (li := 0) (to := none) (tm := tm) hW ⟨h50, hpg, _, _, _, _, _, _, _, _, _, _, _, _, _, _, _, _, h49⟩ ok  ⟨rfl, rfl⟩) rfl (by omega) h49 rfl rfl rfl rfl (by decide) (Nat.le_of_ble_eq_true rfl) rfl (fun mhM_2 hM_2 => ?_)
      subst hM_2
      refine w_iret O dX7_rule_49 ?_
      have e0 : a_rule T (nI 1) = (nI (T.2.2.2.2.1)) := by unfold a_rule; rw [if_neg (by decide), if_pos rfl]
      rw [e0] at hQ
      try dsimp only at hQ
      exact hQ (mM) ⟨_, _, _, _, _, _, _, _, _, _, _, _, _, _, _, _, _, _, _, _, h49, h50, h51, h52, h53, h54, h55, h56, h57, h58, h59, h60, htm, hpg, hIm, hSe, hLa, hLe, hCe⟩ sm.rf
    · skip
      subst hxsw_1
      refine w_tableIn (tgt := 50) O dX7_rule_1 (by decide) (by decide) rfl (by decide) ?_
      refine w_aload_n (n := 51) O dX7_rule_50 rfl rfl rfl ?_
      refine w_getf (n := 54) O 0 dX7_rule_51 (by omega) h49 rfl (by decide) uX7 uf_X7_7 rfl rfl ?_
      refine w_bipush (n := 56) O dX7_rule_54 (v := (nI 25)) (by decide) rfl ?_
      refine w_ialdP (n := 57) (v := T.2.2.2.2.2.1) O dX7_rule_56 hW.2.1 (by omega) h50 (by omega) (by decide) (by omega) hpg.2.2.2.2.1 rfl ?_
      refine w_iret O dX7_rule_57 ?_
      have e0 : a_rule T (nI 2) = (nI (T.2.2.2.2.2.1)) := by unfold a_rule; rw [if_neg (by decide), if_neg (by decide), if_pos rfl]
      rw [e0] at hQ
      try dsimp only at hQ
      exact hQ (mM) ⟨_, _, _, _, _, _, _, _, _, _, _, _, _, _, _, _, _, _, _, _, h49, h50, h51, h52, h53, h54, h55, h56, h57, h58, h59, h60, htm, hpg, hIm, hSe, hLa, hLe, hCe⟩ sm.rf
    · skip
      subst hxsw_1
      refine w_tableIn (tgt := 58) O dX7_rule_1 (by decide) (by decide) rfl (by decide) ?_
      refine w_aload_n (n := 59) O dX7_rule_58 rfl rfl rfl ?_
      refine w_getf (n := 62) O 0 dX7_rule_59 (by omega) h49 rfl (by decide) uX7 uf_X7_7 rfl rfl ?_
      refine w_bipush (n := 64) O dX7_rule_62 (v := (nI 26)) (by decide) rfl ?_
      refine w_ialdP (n := 65) (v := T.2.2.2.2.2.2) O dX7_rule_64 hW.2.1 (by omega) h50 (by omega) (by decide) (by omega) hpg.2.2.2.2.2 rfl ?_
      refine w_iret O dX7_rule_65 ?_
      have e0 : a_rule T (nI 3) = (nI (T.2.2.2.2.2.2)) := by unfold a_rule; rw [if_neg (by decide), if_neg (by decide), if_neg (by decide), if_pos rfl]
      rw [e0] at hQ
      try dsimp only at hQ
      exact hQ (mM) ⟨_, _, _, _, _, _, _, _, _, _, _, _, _, _, _, _, _, _, _, _, h49, h50, h51, h52, h53, h54, h55, h56, h57, h58, h59, h60, htm, hpg, hIm, hSe, hLa, hLe, hCe⟩ sm.rf
    · skip
      subst hxsw_1
      refine w_tableIn (tgt := 66) O dX7_rule_1 (by decide) (by decide) rfl (by decide) ?_
      refine w_aload_n (n := 67) O dX7_rule_66 rfl rfl rfl ?_
      refine w_getf (n := 70) O 0 dX7_rule_67 (by omega) h49 rfl (by decide) uX7 uf_X7_7 rfl rfl ?_
      refine w_bipush (n := 72) O dX7_rule_70 (v := (nI 20)) (by decide) rfl ?_
      refine w_ialdP (n := 73) (v := s 20) O dX7_rule_72 hW.2.1 (by omega) h50 (by omega) (by decide) (by omega) rfl rfl ?_
      refine w_iret O dX7_rule_73 ?_
      have e0 : a_rule T (nI 4) = (nI (s 20)) := by unfold a_rule; rw [if_neg (by decide), if_neg (by decide), if_neg (by decide), if_neg (by decide), if_pos rfl, hpg.2.1]
      rw [e0] at hQ
      try dsimp only at hQ
      exact hQ (mM) ⟨_, _, _, _, _, _, _, _, _, _, _, _, _, _, _, _, _, _, _, _, h49, h50, h51, h52, h53, h54, h55, h56, h57, h58, h59, h60, htm, hpg, hIm, hSe, hLa, hLe, hCe⟩ sm.rf
    · skip
      subst hxsw_1
      refine w_tableIn (tgt := 74) O dX7_rule_1 (by decide) (by decide) rfl (by decide) ?_
      refine w_aload_n (n := 75) O dX7_rule_74 rfl rfl rfl ?_
      refine w_cV (n := 78) (ro := some (.int (nI (sBits (fun g => decide (0 < T.1 (g * 6 + 5))) T.2.2.2.1)))) (R := fun mM' => mM = mM') (st := []) (st1 := [.int (nI (sBits (fun g => decide (0 < T.1 (g * 6 + 5))) T.2.2.2.1))]) (As := []) (b := 49) O dX7_rule_75 ul_X7_147 um_X7_holders (f_X7_holders (s := s) (T := T) (lo := 0) (li := 0) (to := none) (tm := tm) hW ⟨h50, hpg, _, _, _, _, _, _, _, _, _, _, _, _, _, _, _, _, h49⟩ ok  ⟨rfl, rfl⟩) rfl (by omega) h49 rfl rfl rfl rfl (by decide) (Nat.le_of_ble_eq_true rfl) rfl (fun mhM_3 hM_3 => ?_)
      subst hM_3
      refine w_iret O dX7_rule_78 ?_
      have e0 : a_rule T (nI 5) = (nI (sBits (fun g => decide (0 < T.1 (g * 6 + 5))) T.2.2.2.1)) := by unfold a_rule; rw [if_neg (by decide), if_neg (by decide), if_neg (by decide), if_neg (by decide), if_neg (by decide), if_pos rfl]
      rw [e0] at hQ
      try dsimp only at hQ
      exact hQ (mM) ⟨_, _, _, _, _, _, _, _, _, _, _, _, _, _, _, _, _, _, _, _, h49, h50, h51, h52, h53, h54, h55, h56, h57, h58, h59, h60, htm, hpg, hIm, hSe, hLa, hLe, hCe⟩ sm.rf
  · skip
    refine w_tableOut (tgt := 79) O dX7_rule_1 (by first | exact sw_1 | omega) (by decide) ?_
    refine w_iconst (n := 80) O dX7_rule_79 (v := (-1)) (by decide) rfl ?_
    refine w_iret O dX7_rule_80 ?_
    have e0 : a_rule T x = (-1) := by unfold a_rule; rw [if_neg (fun e => by rw [e] at sw_1; revert sw_1; decide), if_neg (fun e => by rw [e] at sw_1; revert sw_1; decide), if_neg (fun e => by rw [e] at sw_1; revert sw_1; decide), if_neg (fun e => by rw [e] at sw_1; revert sw_1; decide), if_neg (fun e => by rw [e] at sw_1; revert sw_1; decide), if_neg (fun e => by rw [e] at sw_1; revert sw_1; decide)]
    rw [e0] at hQ
    try dsimp only at hQ
    exact hQ (mM) ⟨_, _, _, _, _, _, _, _, _, _, _, _, _, _, _, _, _, _, _, _, h49, h50, h51, h52, h53, h54, h55, h56, h57, h58, h59, h60, htm, hpg, hIm, hSe, hLa, hLe, hCe⟩ sm.rf
set_option maxRecDepth 100000 in
set_option maxHeartbeats 4000000 in
theorem f_X7_giver {G : gb_G} (hW : gW G) {Q : Option Value → gb_M → Prop} {mM : gb_M} {T : Tw} {im : Nat → Tw} {kp : Nat → Bool} {bs : Nat → Nat} {ln fa : Nat} {st sf : Nat → Nat} {sn : Nat} {sh : Sh} {sc : Nat → Nat → Int32} {tn : Nat} (hok : okS T im kp bs ln fa st sf sn sh tn) (hM : isMW G mM T im kp bs ln fa st sf sn sh sc tn) {g x : Int32}  (hQ : ∀ M', isMW G M' T im kp bs ln fa st sf sn sh sc tn → sm mM M' 49 60 → Q (some (.int (a_giver T g x))) M') : Fn G 3 yX7_giver cX7_giver 3 (some .int) [.ref (gb_ad G 49), .int (g), .int (x)] mM Q := by
  obtain ⟨s, se, le, rp, te, la, ce, tm, x3, x4, x5, x6, x7, x11, x12, x13, x14, x15, x16, x26, h49, h50, h51, h52, h53, h54, h55, h56, h57, h58, h59, h60, htm, hpg, hIm, hSe, hLa, hLe, hCe⟩ := hM
  have ok := hok.1
  have hn4 := ok.1
  have hst9 := hok.2.1
  have hln := hok.2.2.2.1
  have hsn6 := hok.2.2.2.2.2.2.1
  have hN := hW.2.2.1
  refine Fn.of hW.1 [(0, .ref (gb_ad G 49)), (1, .int (g)), (2, .int (x))] (by decide) (Nat.le_of_ble_eq_true rfl) rfl ?_
  intro X O
  refine w_aload_n (n := 1) O dX7_giver_0 rfl rfl rfl ?_
  refine w_iload_n (n := 2) O dX7_giver_1 rfl rfl rfl ?_
  refine w_cV (n := 5) (ro := some (.int (bI (isGv (g) T.2.2.2.1)))) (R := fun mM' => mM = mM') (st := []) (st1 := [.int (bI (isGv (g) T.2.2.2.1))]) (As := [.int (g)]) (b := 49) O dX7_giver_2 ul_X7_165 um_X7_isGiver (f_X7_isGiver (s := s) (T := T) (lo := 0) (li := 0) (to := none) (tm := tm) hW ⟨h50, hpg, _, _, _, _, _, _, _, _, _, _, _, _, _, _, _, _, h49⟩ ok  ⟨rfl, rfl⟩) rfl (by omega) h49 rfl rfl rfl rfl (by decide) (Nat.le_of_ble_eq_true rfl) rfl (fun mhM_1 hM_1 => ?_)
  subst hM_1
  refine w_if_neB (n := 8) (tgt := 10) O dX7_giver_5 (by decide) rfl (fun c_2 => ?_) (fun c_2 => ?_)
  · skip
    have hr_j := c_2
    obtain ⟨j, ja, rfl⟩ := isGv_t (by omega) c_2
    have cl_j : (nI j).toNatClampNeg = j := nI_clamp (by omega)
    refine w_iload_n (n := 11) O dX7_giver_10 rfl rfl rfl ?_
    rcases sw_in x 7 (by decide) with ⟨wsw_3, hwsw_3, hxsw_3⟩ | sw_3
    · rcases (show wsw_3 = 0 ∨ wsw_3 = 1 ∨ wsw_3 = 2 ∨ wsw_3 = 3 ∨ wsw_3 = 4 ∨ wsw_3 = 5 ∨ wsw_3 = 6 ∨ wsw_3 = 7 by omega) with rfl | rfl | rfl | rfl | rfl | rfl | rfl | rfl
      · skip
        subst hxsw_3
        refine w_tableIn (tgt := 56) O dX7_giver_11 (by decide) (by decide) rfl (by decide) ?_
        refine w_aload_n (n := 57) O dX7_giver_56 rfl rfl rfl ?_
        refine w_getf (n := 60) O 0 dX7_giver_57 (by omega) h49 rfl (by decide) uX7 uf_X7_7 rfl rfl ?_
        refine w_iconst (n := 61) O dX7_giver_60 (v := (nI 4)) (by decide) rfl ?_
        refine w_iload_n (n := 62) O dX7_giver_61 rfl rfl rfl ?_
        refine w_imulN (n := 63) O dX7_giver_62 rfl ?_
        refine w_iload_n (n := 64) O dX7_giver_63 rfl rfl rfl ?_
        refine w_iaddN (n := 65) O dX7_giver_64 rfl ?_
        refine w_top (nI (j)) (by rw [show 4 * 0 + j = j by omega]) ?_
        refine w_ialdP (n := 66) (v := T.1 (j * 6 + 0)) O dX7_giver_65 hW.2.1 (by omega) h50 (by omega) (by decide) (by omega) (hpg.1 j (by omega)).1 rfl ?_
        refine w_iret O dX7_giver_66 ?_
        have e0 : a_giver T (nI j) (nI 0) = (nI (T.1 (j * 6 + 0))) := by unfold a_giver; rw [if_pos hr_j, if_pos (by decide), cl_j, nI_clamp (show 0 < 2 ^ 31 by decide)]
        rw [e0] at hQ
        try dsimp only at hQ
        exact hQ (mM) ⟨_, _, _, _, _, _, _, _, _, _, _, _, _, _, _, _, _, _, _, _, h49, h50, h51, h52, h53, h54, h55, h56, h57, h58, h59, h60, htm, hpg, hIm, hSe, hLa, hLe, hCe⟩ sm.rf
      · skip
        subst hxsw_3
        refine w_tableIn (tgt := 56) O dX7_giver_11 (by decide) (by decide) rfl (by decide) ?_
        refine w_aload_n (n := 57) O dX7_giver_56 rfl rfl rfl ?_
        refine w_getf (n := 60) O 0 dX7_giver_57 (by omega) h49 rfl (by decide) uX7 uf_X7_7 rfl rfl ?_
        refine w_iconst (n := 61) O dX7_giver_60 (v := (nI 4)) (by decide) rfl ?_
        refine w_iload_n (n := 62) O dX7_giver_61 rfl rfl rfl ?_
        refine w_imulN (n := 63) O dX7_giver_62 rfl ?_
        refine w_iload_n (n := 64) O dX7_giver_63 rfl rfl rfl ?_
        refine w_iaddN (n := 65) O dX7_giver_64 rfl ?_
        refine w_top (nI (4 + j)) (by rw [show 4 * 1 + j = 4 + j by omega]) ?_
        refine w_ialdP (n := 66) (v := T.1 (j * 6 + 1)) O dX7_giver_65 hW.2.1 (by omega) h50 (by omega) (by decide) (by omega) (hpg.1 j (by omega)).2.1 rfl ?_
        refine w_iret O dX7_giver_66 ?_
        have e0 : a_giver T (nI j) (nI 1) = (nI (T.1 (j * 6 + 1))) := by unfold a_giver; rw [if_pos hr_j, if_pos (by decide), cl_j, nI_clamp (show 1 < 2 ^ 31 by decide)]
        rw [e0] at hQ
        try dsimp only at hQ
        exact hQ (mM) ⟨_, _, _, _, _, _, _, _, _, _, _, _, _, _, _, _, _, _, _, _, h49, h50, h51, h52, h53, h54, h55, h56, h57, h58, h59, h60, htm, hpg, hIm, hSe, hLa, hLe, hCe⟩ sm.rf
      · skip
        subst hxsw_3
        refine w_tableIn (tgt := 56) O dX7_giver_11 (by decide) (by decide) rfl (by decide) ?_
        refine w_aload_n (n := 57) O dX7_giver_56 rfl rfl rfl ?_
        refine w_getf (n := 60) O 0 dX7_giver_57 (by omega) h49 rfl (by decide) uX7 uf_X7_7 rfl rfl ?_
        refine w_iconst (n := 61) O dX7_giver_60 (v := (nI 4)) (by decide) rfl ?_
        refine w_iload_n (n := 62) O dX7_giver_61 rfl rfl rfl ?_
        refine w_imulN (n := 63) O dX7_giver_62 rfl ?_
        refine w_iload_n (n := 64) O dX7_giver_63 rfl rfl rfl ?_
        refine w_iaddN (n := 65) O dX7_giver_64 rfl ?_
        refine w_top (nI (8 + j)) (by rw [show 4 * 2 + j = 8 + j by omega]) ?_
        refine w_ialdP (n := 66) (v := T.1 (j * 6 + 2)) O dX7_giver_65 hW.2.1 (by omega) h50 (by omega) (by decide) (by omega) (hpg.1 j (by omega)).2.2.1 rfl ?_
        refine w_iret O dX7_giver_66 ?_
        have e0 : a_giver T (nI j) (nI 2) = (nI (T.1 (j * 6 + 2))) := by unfold a_giver; rw [if_pos hr_j, if_pos (by decide), cl_j, nI_clamp (show 2 < 2 ^ 31 by decide)]
        rw [e0] at hQ
        try dsimp only at hQ
        exact hQ (mM) ⟨_, _, _, _, _, _, _, _, _, _, _, _, _, _, _, _, _, _, _, _, h49, h50, h51, h52, h53, h54, h55, h56, h57, h58, h59, h60, htm, hpg, hIm, hSe, hLa, hLe, hCe⟩ sm.rf
      · skip
        subst hxsw_3
        refine w_tableIn (tgt := 56) O dX7_giver_11 (by decide) (by decide) rfl (by decide) ?_
        refine w_aload_n (n := 57) O dX7_giver_56 rfl rfl rfl ?_
        refine w_getf (n := 60) O 0 dX7_giver_57 (by omega) h49 rfl (by decide) uX7 uf_X7_7 rfl rfl ?_
        refine w_iconst (n := 61) O dX7_giver_60 (v := (nI 4)) (by decide) rfl ?_
        refine w_iload_n (n := 62) O dX7_giver_61 rfl rfl rfl ?_
        refine w_imulN (n := 63) O dX7_giver_62 rfl ?_
        refine w_iload_n (n := 64) O dX7_giver_63 rfl rfl rfl ?_
        refine w_iaddN (n := 65) O dX7_giver_64 rfl ?_
        refine w_top (nI (12 + j)) (by rw [show 4 * 3 + j = 12 + j by omega]) ?_
        refine w_ialdP (n := 66) (v := T.1 (j * 6 + 3)) O dX7_giver_65 hW.2.1 (by omega) h50 (by omega) (by decide) (by omega) (hpg.1 j (by omega)).2.2.2.1 rfl ?_
        refine w_iret O dX7_giver_66 ?_
        have e0 : a_giver T (nI j) (nI 3) = (nI (T.1 (j * 6 + 3))) := by unfold a_giver; rw [if_pos hr_j, if_pos (by decide), cl_j, nI_clamp (show 3 < 2 ^ 31 by decide)]
        rw [e0] at hQ
        try dsimp only at hQ
        exact hQ (mM) ⟨_, _, _, _, _, _, _, _, _, _, _, _, _, _, _, _, _, _, _, _, h49, h50, h51, h52, h53, h54, h55, h56, h57, h58, h59, h60, htm, hpg, hIm, hSe, hLa, hLe, hCe⟩ sm.rf
      · skip
        subst hxsw_3
        refine w_tableIn (tgt := 67) O dX7_giver_11 (by decide) (by decide) rfl (by decide) ?_
        have hb16 := pg_b16 hpg hn4
        have hsl := sh_le (s 20) j
        have hb4 : T.1 (j * 6 + 4) = s 20 / 2 ^ j % 2 := by have h1 := pg_hs hpg hn4 ja; have h2 := (ok.2.1 j (by omega)).2.2.2.2.1; unfold hasB at h1; by_cases e : s 20 / 2 ^ j % 2 = 1; (rw [decide_eq_true e] at h1; have := of_decide_eq_true h1.symm; omega); (rw [decide_eq_false e] at h1; have := of_decide_eq_false h1.symm; omega)
        refine w_aload_n (n := 68) O dX7_giver_67 rfl rfl rfl ?_
        refine w_getf (n := 71) O 0 dX7_giver_68 (by omega) h49 rfl (by decide) uX7 uf_X7_7 rfl rfl ?_
        refine w_bipush (n := 73) O dX7_giver_71 (v := (nI 20)) (by decide) rfl ?_
        refine w_ialdP (n := 74) (v := s 20) O dX7_giver_73 hW.2.1 (by omega) h50 (by omega) (by decide) (by omega) rfl rfl ?_
        refine w_iload_n (n := 75) O dX7_giver_74 rfl rfl rfl ?_
        refine w_ishr (n := 76) O dX7_giver_75 rfl ?_
        refine w_top (nI ((s 20) / 2 ^ j)) (nI_shr (by omega) (by omega)) ?_
        refine w_iconst (n := 77) O dX7_giver_76 (v := (nI 1)) (by decide) rfl ?_
        refine w_iand (n := 78) O dX7_giver_77 rfl ?_
        refine w_top (nI (((s 20) / 2 ^ j) % 2)) (nI_and1 (by omega)) ?_
        refine w_iret O dX7_giver_78 ?_
        have e0 : a_giver T (nI j) (nI 4) = (nI ((((s 20) / 2 ^ j) % 2))) := by unfold a_giver; rw [if_pos hr_j, if_pos (by decide), cl_j, nI_clamp (show 4 < 2 ^ 31 by decide), hb4]
        rw [e0] at hQ
        try dsimp only at hQ
        exact hQ (mM) ⟨_, _, _, _, _, _, _, _, _, _, _, _, _, _, _, _, _, _, _, _, h49, h50, h51, h52, h53, h54, h55, h56, h57, h58, h59, h60, htm, hpg, hIm, hSe, hLa, hLe, hCe⟩ sm.rf
      · skip
        subst hxsw_3
        refine w_tableIn (tgt := 79) O dX7_giver_11 (by decide) (by decide) rfl (by decide) ?_
        refine w_aload_n (n := 80) O dX7_giver_79 rfl rfl rfl ?_
        refine w_getf (n := 83) O 0 dX7_giver_80 (by omega) h49 rfl (by decide) uX7 uf_X7_7 rfl rfl ?_
        refine w_bipush (n := 85) O dX7_giver_83 (v := (nI 16)) (by decide) rfl ?_
        refine w_iload_n (n := 86) O dX7_giver_85 rfl rfl rfl ?_
        refine w_iaddN (n := 87) O dX7_giver_86 rfl ?_
        refine w_ialdP (n := 88) (v := T.1 (j * 6 + 5)) O dX7_giver_87 hW.2.1 (by omega) h50 (by omega) (by decide) (by omega) (hpg.1 j (by omega)).2.2.2.2 rfl ?_
        refine w_iret O dX7_giver_88 ?_
        have e0 : a_giver T (nI j) (nI 5) = (nI (T.1 (j * 6 + 5))) := by unfold a_giver; rw [if_pos hr_j, if_pos (by decide), cl_j, nI_clamp (show 5 < 2 ^ 31 by decide)]
        rw [e0] at hQ
        try dsimp only at hQ
        exact hQ (mM) ⟨_, _, _, _, _, _, _, _, _, _, _, _, _, _, _, _, _, _, _, _, h49, h50, h51, h52, h53, h54, h55, h56, h57, h58, h59, h60, htm, hpg, hIm, hSe, hLa, hLe, hCe⟩ sm.rf
      · skip
        subst hxsw_3
        refine w_tableIn (tgt := 89) O dX7_giver_11 (by decide) (by decide) rfl (by decide) ?_
        refine w_aload_n (n := 90) O dX7_giver_89 rfl rfl rfl ?_
        refine w_iload_n (n := 91) O dX7_giver_90 rfl rfl rfl ?_
        refine w_cV (n := 94) (ro := some (.int (nI (tOwes T j)))) (R := fun mM' => mM = mM') (st := []) (st1 := [.int (nI (tOwes T j))]) (As := [.int (nI (j))]) (b := 49) O dX7_giver_91 ul_X7_150 um_X7_owes (f_X7_owes (s := s) (T := T) (lo := 0) (li := 0) (to := none) (tm := tm) hW ⟨h50, hpg, _, _, _, _, _, _, _, _, _, _, _, _, _, _, _, _, h49⟩ ok (by omega) ⟨rfl, rfl⟩) rfl (by omega) h49 rfl rfl rfl rfl (by decide) (Nat.le_of_ble_eq_true rfl) rfl (fun mhM_4 hM_4 => ?_)
        subst hM_4
        refine w_iret O dX7_giver_94 ?_
        have e0 : a_giver T (nI j) (nI 6) = (nI (tOwes T j)) := by unfold a_giver; rw [if_pos hr_j, if_neg (by decide), if_pos rfl, cl_j]
        rw [e0] at hQ
        try dsimp only at hQ
        exact hQ (mM) ⟨_, _, _, _, _, _, _, _, _, _, _, _, _, _, _, _, _, _, _, _, h49, h50, h51, h52, h53, h54, h55, h56, h57, h58, h59, h60, htm, hpg, hIm, hSe, hLa, hLe, hCe⟩ sm.rf
      · skip
        subst hxsw_3
        refine w_tableIn (tgt := 95) O dX7_giver_11 (by decide) (by decide) rfl (by decide) ?_
        refine w_aload_n (n := 96) O dX7_giver_95 rfl rfl rfl ?_
        refine w_iload_n (n := 97) O dX7_giver_96 rfl rfl rfl ?_
        refine w_cV (n := 100) (ro := some (.int (nI (tGives T j)))) (R := fun mM' => mM = mM') (st := []) (st1 := [.int (nI (tGives T j))]) (As := [.int (nI (j))]) (b := 49) O dX7_giver_97 ul_X7_169 um_X7_gives (f_X7_gives0 (s := s) (T := T) (tm := tm) hW ⟨h50, hpg, _, _, _, _, _, _, _, _, _, _, _, _, _, _, _, _, h49⟩ ok htm (by omega) ⟨rfl, rfl⟩) rfl (by omega) h49 rfl rfl rfl rfl (by decide) (Nat.le_of_ble_eq_true rfl) rfl (fun mhM_5 hM_5 => ?_)
        subst hM_5
        refine w_iret O dX7_giver_100 ?_
        have e0 : a_giver T (nI j) (nI 7) = (nI (tGives T j)) := by unfold a_giver; rw [if_pos hr_j, if_neg (by decide), if_neg (by decide), if_pos rfl, cl_j]
        rw [e0] at hQ
        try dsimp only at hQ
        exact hQ (mM) ⟨_, _, _, _, _, _, _, _, _, _, _, _, _, _, _, _, _, _, _, _, h49, h50, h51, h52, h53, h54, h55, h56, h57, h58, h59, h60, htm, hpg, hIm, hSe, hLa, hLe, hCe⟩ sm.rf
    · skip
      refine w_tableOut (tgt := 101) O dX7_giver_11 (by first | exact sw_3 | omega) (by decide) ?_
      refine w_iconst (n := 102) O dX7_giver_101 (v := (-1)) (by decide) rfl ?_
      refine w_iret O dX7_giver_102 ?_
      have e0 : a_giver T (nI j) x = -1 := by unfold a_giver; rw [if_pos hr_j, if_neg (fun z => by obtain ⟨w9, w9a, w9b, rfl⟩ := wIn_t (by decide) z (by decide); revert sw_3; rw [nI_toInt (by omega)]; omega), if_neg (fun z => by rw [z] at sw_3; revert sw_3; decide), if_neg (fun z => by rw [z] at sw_3; revert sw_3; decide)]
      rw [e0] at hQ
      try dsimp only at hQ
      exact hQ (mM) ⟨_, _, _, _, _, _, _, _, _, _, _, _, _, _, _, _, _, _, _, _, h49, h50, h51, h52, h53, h54, h55, h56, h57, h58, h59, h60, htm, hpg, hIm, hSe, hLa, hLe, hCe⟩ sm.rf
  · skip
    refine w_iconst (n := 9) O dX7_giver_8 (v := (-1)) (by decide) rfl ?_
    refine w_iret O dX7_giver_9 ?_
    have e0 : a_giver T g x = -1 := by unfold a_giver; rw [if_neg (by rw [c_2]; decide)]
    rw [e0] at hQ
    try dsimp only at hQ
    exact hQ (mM) ⟨_, _, _, _, _, _, _, _, _, _, _, _, _, _, _, _, _, _, _, _, h49, h50, h51, h52, h53, h54, h55, h56, h57, h58, h59, h60, htm, hpg, hIm, hSe, hLa, hLe, hCe⟩ sm.rf
theorem met_no {m x : Int32} (h1 : ¬ (m = nI 3 ∧ x = nI 0)) (h2 : wIn m (nI 0) (nI 2) = false ∨ wIn x (nI 0) (nI 2) = false) : ¬ (wIn m (nI 0) (nI 3) = true ∧ wIn x (nI 0) (if m = nI 3 then nI 0 else nI 2) = true) := by
  intro ⟨a1, a2⟩
  obtain ⟨j, -, hj, rfl⟩ := wIn_t (by decide) a1 (by decide)
  by_cases e : nI j = nI 3
  · rw [if_pos e] at a2
    obtain ⟨q, -, hq, rfl⟩ := wIn_t (by decide) a2 (by decide)
    exact h1 ⟨e, by rw [show q = 0 by omega]⟩
  · rw [if_neg e] at a2
    rcases h2 with z | z
    · rw [wIn_n (by omega) (by decide) (by decide)] at z
      have hj3 : ¬ j = 3 := fun w => e (by rw [w])
      rw [decide_eq_true (Nat.zero_le j), decide_eq_true (show j ≤ 2 by omega)] at z
      exact absurd z (by decide)
    · rw [z] at a2
      exact absurd a2 (by decide)
set_option maxRecDepth 100000 in
set_option maxHeartbeats 4000000 in
theorem f_X7_metal {G : gb_G} (hW : gW G) {Q : Option Value → gb_M → Prop} {mM : gb_M} {T : Tw} {im : Nat → Tw} {kp : Nat → Bool} {bs : Nat → Nat} {ln fa : Nat} {st sf : Nat → Nat} {sn : Nat} {sh : Sh} {sc : Nat → Nat → Int32} {tn : Nat} (hok : okS T im kp bs ln fa st sf sn sh tn) (hM : isMW G mM T im kp bs ln fa st sf sn sh sc tn) {m x : Int32}  (hQ : ∀ M', isMW G M' T im kp bs ln fa st sf sn sh sc tn → sm mM M' 49 60 → Q (some (.int (a_metal T m x))) M') : Fn G 5 yX7_metal cX7_metal 3 (some .int) [.ref (gb_ad G 49), .int (m), .int (x)] mM Q := by
  obtain ⟨s, se, le, rp, te, la, ce, tm, x3, x4, x5, x6, x7, x11, x12, x13, x14, x15, x16, x26, h49, h50, h51, h52, h53, h54, h55, h56, h57, h58, h59, h60, htm, hpg, hIm, hSe, hLa, hLe, hCe⟩ := hM
  have ok := hok.1
  have hn4 := ok.1
  have hst9 := hok.2.1
  have hln := hok.2.2.2.1
  have hsn6 := hok.2.2.2.2.2.2.1
  have hN := hW.2.2.1
  refine Fn.of hW.1 [(0, .ref (gb_ad G 49)), (1, .int (m)), (2, .int (x))] (by decide) (Nat.le_of_ble_eq_true rfl) rfl ?_
  intro X O
  refine w_iload_n (n := 1) O dX7_metal_0 rfl rfl rfl ?_
  refine w_iconst (n := 2) O dX7_metal_1 (v := (nI 3)) (by decide) rfl ?_
  refine w_icmp_ne (n := 5) (tgt := 15) O dX7_metal_2 (by decide) rfl (fun c_1 => ?_) (fun c_1 => ?_)
  · skip
    refine w_iload_n (n := 16) O dX7_metal_15 rfl rfl rfl ?_
    refine w_cS (n := 19) (ro := some (.int (bI (wIn (m) (nI 0) (nI 2))))) (R := fun mM' => mM = mM') (st := []) (st1 := [.int (bI (wIn (m) (nI 0) (nI 2)))]) (As := [.int (m)]) O dX7_metal_16 ul_X7_187 um_X7_isMetal (f_X7_isMetal hW ⟨rfl, rfl⟩) rfl rfl rfl (by decide) (Nat.le_of_ble_eq_true rfl) rfl (fun mhM_2 hM_2 => ?_)
    subst hM_2
    refine w_if_eqB (n := 22) (tgt := 34) O dX7_metal_19 (by decide) rfl (fun c_3 => ?_) (fun c_3 => ?_)
    · skip
      refine w_iconst (n := 35) O dX7_metal_34 (v := (-1)) (by decide) rfl ?_
      refine w_iret O dX7_metal_35 ?_
      have e0 : a_metal T m x = -1 := by unfold a_metal; exact if_neg (met_no (fun z => c_1 z.1) (Or.inl c_3))
      rw [e0] at hQ
      try dsimp only at hQ
      exact hQ (mM) ⟨_, _, _, _, _, _, _, _, _, _, _, _, _, _, _, _, _, _, _, _, h49, h50, h51, h52, h53, h54, h55, h56, h57, h58, h59, h60, htm, hpg, hIm, hSe, hLa, hLe, hCe⟩ sm.rf
    · skip
      have hr_k := c_3
      obtain ⟨k, ka, kb, rfl⟩ := wIn_t (by omega) c_3 (by omega)
      have cl_k : (nI k).toNatClampNeg = k := nI_clamp (by omega)
      refine w_iload_n (n := 23) O dX7_metal_22 rfl rfl rfl ?_
      refine w_i2l (n := 24) O dX7_metal_23 rfl ?_
      refine w_lconst (n := 25) O dX7_metal_24 (v := lN 0) (by decide) rfl ?_
      refine w_ldc2 (n := 28) O dX7_metal_25 uc_X7_142 rfl ?_
      refine w_topl (lN 2) (by decide) ?_
      refine w_cS (n := 31) (ro := some (.int (bI (wIn (x) (nI 0) (nI 2))))) (R := fun mM' => mM = mM') (st := []) (st1 := [.int (bI (wIn (x) (nI 0) (nI 2)))]) (As := [.long ((x).toInt64), .long (lN 0), .long (lN 2)]) O dX7_metal_28 ul_X7_50 um_X7_in (f_X7_in (x := (x)) (y := (nI 0)) (z := (nI 2)) hW rfl (nI_l (by decide)).symm (nI_l (by decide)).symm ⟨rfl, rfl⟩) rfl rfl rfl (by decide) (Nat.le_of_ble_eq_true rfl) rfl (fun mhM_4 hM_4 => ?_)
      subst hM_4
      refine w_if_neB (n := 34) (tgt := 36) O dX7_metal_31 (by decide) rfl (fun c_5 => ?_) (fun c_5 => ?_)
      · skip
        have hr_j := c_5
        obtain ⟨j, ja, jb, rfl⟩ := wIn_t (by omega) c_5 (by omega)
        have cl_j : (nI j).toNatClampNeg = j := nI_clamp (by omega)
        refine w_iload_n (n := 37) O dX7_metal_36 rfl rfl rfl ?_
        refine w_if_neN (n := 40) (tgt := 48) O dX7_metal_37 (by omega) (by decide) rfl (fun c_6 => ?_) (fun c_6 => ?_)
        · skip
          refine w_iload_n (n := 49) O dX7_metal_48 rfl rfl rfl ?_
          refine w_iconst (n := 50) O dX7_metal_49 (v := (nI 1)) (by decide) rfl ?_
          refine w_icmp_neN (n := 53) (tgt := 65) O dX7_metal_50 (by omega) (by omega) (by decide) rfl (fun c_7 => ?_) (fun c_7 => ?_)
          · skip
            refine w_aload_n (n := 66) O dX7_metal_65 rfl rfl rfl ?_
            refine w_getf (n := 69) O 0 dX7_metal_66 (by omega) h49 rfl (by decide) uX7 uf_X7_7 rfl rfl ?_
            refine w_bipush (n := 71) O dX7_metal_69 (v := (nI 27)) (by decide) rfl ?_
            refine w_iload_n (n := 72) O dX7_metal_71 rfl rfl rfl ?_
            refine w_iaddN (n := 73) O dX7_metal_72 rfl ?_
            refine w_ialdP (n := 74) (v := T.2.2.1 k) O dX7_metal_73 hW.2.1 (by omega) h50 (by omega) (by decide) (by omega) (hpg.2.2.1 k (by omega)).2 rfl ?_
            refine w_iret O dX7_metal_74 ?_
            have e0 : a_metal T (nI k) (nI j) = (nI (T.2.2.1 k)) := by unfold a_metal; rw [if_pos ⟨by rw [wIn_n (by omega) (by decide) (by decide), decide_eq_true (Nat.zero_le k), decide_eq_true (show k ≤ 3 by omega)]; rfl, by rw [if_neg (show ¬ nI k = nI 3 from fun z => by have := (nI_eq (by omega) (by decide)).mp z; omega)]; exact hr_j⟩, if_neg (fun z => by have := (nI_eq (by omega) (by decide)).mp z; omega), if_pos (by rw [show j = 2 by omega]), cl_k]
            rw [e0] at hQ
            try dsimp only at hQ
            exact hQ (mM) ⟨_, _, _, _, _, _, _, _, _, _, _, _, _, _, _, _, _, _, _, _, h49, h50, h51, h52, h53, h54, h55, h56, h57, h58, h59, h60, htm, hpg, hIm, hSe, hLa, hLe, hCe⟩ sm.rf
          · skip
            refine w_aload_n (n := 54) O dX7_metal_53 rfl rfl rfl ?_
            refine w_getf (n := 57) O 0 dX7_metal_54 (by omega) h49 rfl (by decide) uX7 uf_X7_7 rfl rfl ?_
            refine w_bipush (n := 59) O dX7_metal_57 (v := (nI 21)) (by decide) rfl ?_
            refine w_iload_n (n := 60) O dX7_metal_59 rfl rfl rfl ?_
            refine w_iaddN (n := 61) O dX7_metal_60 rfl ?_
            refine w_ialdP (n := 62) (v := T.2.1 k) O dX7_metal_61 hW.2.1 (by omega) h50 (by omega) (by decide) (by omega) (hpg.2.2.1 k (by omega)).1 rfl ?_
            refine w_goto (tgt := 74) O dX7_metal_62 (by decide) ?_
            refine w_iret O dX7_metal_74 ?_
            have e0 : a_metal T (nI k) (nI j) = (nI (T.2.1 k)) := by unfold a_metal; rw [if_pos ⟨by rw [wIn_n (by omega) (by decide) (by decide), decide_eq_true (Nat.zero_le k), decide_eq_true (show k ≤ 3 by omega)]; rfl, by rw [if_neg (show ¬ nI k = nI 3 from fun z => by have := (nI_eq (by omega) (by decide)).mp z; omega)]; exact hr_j⟩, if_pos (by rw [c_7]), cl_k]
            rw [e0] at hQ
            try dsimp only at hQ
            exact hQ (mM) ⟨_, _, _, _, _, _, _, _, _, _, _, _, _, _, _, _, _, _, _, _, h49, h50, h51, h52, h53, h54, h55, h56, h57, h58, h59, h60, htm, hpg, hIm, hSe, hLa, hLe, hCe⟩ sm.rf
        · skip
          refine w_aload_n (n := 41) O dX7_metal_40 rfl rfl rfl ?_
          refine w_iload_n (n := 42) O dX7_metal_41 rfl rfl rfl ?_
          refine w_cV (n := 45) (ro := some (.int (nI (bAm T k)))) (R := fun mM' => mM = mM') (st := []) (st1 := [.int (nI (bAm T k))]) (As := [.int (nI (k))]) (b := 49) O dX7_metal_42 ul_X7_175 um_X7_inBell (f_X7_inBell0 (s := s) (T := T) (tm := tm) hW ⟨h50, hpg, _, _, _, _, _, _, _, _, _, _, _, _, _, _, _, _, h49⟩ ok htm (by omega) ⟨rfl, rfl⟩) rfl (by omega) h49 rfl rfl rfl rfl (by decide) (Nat.le_of_ble_eq_true rfl) rfl (fun mhM_8 hM_8 => ?_)
          subst hM_8
          refine w_goto (tgt := 74) O dX7_metal_45 (by decide) ?_
          refine w_iret O dX7_metal_74 ?_
          have e0 : a_metal T (nI k) (nI j) = (nI (bAm T k)) := by unfold a_metal; rw [if_pos ⟨by rw [wIn_n (by omega) (by decide) (by decide), decide_eq_true (Nat.zero_le k), decide_eq_true (show k ≤ 3 by omega)]; rfl, by rw [if_neg (show ¬ nI k = nI 3 from fun z => by have := (nI_eq (by omega) (by decide)).mp z; omega)]; exact hr_j⟩, if_neg (fun z => by have := (nI_eq (by omega) (by decide)).mp z; omega), if_neg (fun z => by have := (nI_eq (by omega) (by decide)).mp z; omega), cl_k]
          rw [e0] at hQ
          try dsimp only at hQ
          exact hQ (mM) ⟨_, _, _, _, _, _, _, _, _, _, _, _, _, _, _, _, _, _, _, _, h49, h50, h51, h52, h53, h54, h55, h56, h57, h58, h59, h60, htm, hpg, hIm, hSe, hLa, hLe, hCe⟩ sm.rf
      · skip
        refine w_iconst (n := 35) O dX7_metal_34 (v := (-1)) (by decide) rfl ?_
        refine w_iret O dX7_metal_35 ?_
        have e0 : a_metal T (nI k) x = -1 := by unfold a_metal; exact if_neg (met_no (fun z => c_1 z.1) (Or.inr c_5))
        rw [e0] at hQ
        try dsimp only at hQ
        exact hQ (mM) ⟨_, _, _, _, _, _, _, _, _, _, _, _, _, _, _, _, _, _, _, _, h49, h50, h51, h52, h53, h54, h55, h56, h57, h58, h59, h60, htm, hpg, hIm, hSe, hLa, hLe, hCe⟩ sm.rf
  · skip
    refine w_iload_n (n := 6) O dX7_metal_5 rfl rfl rfl ?_
    refine w_if_ne (n := 9) (tgt := 15) O dX7_metal_6 (by decide) rfl (fun c_9 => ?_) (fun c_9 => ?_)
    · skip
      refine w_iload_n (n := 16) O dX7_metal_15 rfl rfl rfl ?_
      refine w_cS (n := 19) (ro := some (.int (bI (wIn (m) (nI 0) (nI 2))))) (R := fun mM' => mM = mM') (st := []) (st1 := [.int (bI (wIn (m) (nI 0) (nI 2)))]) (As := [.int (m)]) O dX7_metal_16 ul_X7_187 um_X7_isMetal (f_X7_isMetal hW ⟨rfl, rfl⟩) rfl rfl rfl (by decide) (Nat.le_of_ble_eq_true rfl) rfl (fun mhM_10 hM_10 => ?_)
      subst hM_10
      refine w_if_eqB (n := 22) (tgt := 34) O dX7_metal_19 (by decide) rfl (fun c_11 => ?_) (fun c_11 => ?_)
      · skip
        refine w_iconst (n := 35) O dX7_metal_34 (v := (-1)) (by decide) rfl ?_
        refine w_iret O dX7_metal_35 ?_
        have e0 : a_metal T m x = -1 := by unfold a_metal; exact if_neg (met_no (fun z => c_9 (z.2.trans nI_0)) (Or.inl c_11))
        rw [e0] at hQ
        try dsimp only at hQ
        exact hQ (mM) ⟨_, _, _, _, _, _, _, _, _, _, _, _, _, _, _, _, _, _, _, _, h49, h50, h51, h52, h53, h54, h55, h56, h57, h58, h59, h60, htm, hpg, hIm, hSe, hLa, hLe, hCe⟩ sm.rf
      · skip
        have hr_k := c_11
        obtain ⟨k, ka, kb, rfl⟩ := wIn_t (by omega) c_11 (by omega)
        have cl_k : (nI k).toNatClampNeg = k := nI_clamp (by omega)
        refine w_iload_n (n := 23) O dX7_metal_22 rfl rfl rfl ?_
        refine w_i2l (n := 24) O dX7_metal_23 rfl ?_
        refine w_lconst (n := 25) O dX7_metal_24 (v := lN 0) (by decide) rfl ?_
        refine w_ldc2 (n := 28) O dX7_metal_25 uc_X7_142 rfl ?_
        refine w_topl (lN 2) (by decide) ?_
        refine w_cS (n := 31) (ro := some (.int (bI (wIn (x) (nI 0) (nI 2))))) (R := fun mM' => mM = mM') (st := []) (st1 := [.int (bI (wIn (x) (nI 0) (nI 2)))]) (As := [.long ((x).toInt64), .long (lN 0), .long (lN 2)]) O dX7_metal_28 ul_X7_50 um_X7_in (f_X7_in (x := (x)) (y := (nI 0)) (z := (nI 2)) hW rfl (nI_l (by decide)).symm (nI_l (by decide)).symm ⟨rfl, rfl⟩) rfl rfl rfl (by decide) (Nat.le_of_ble_eq_true rfl) rfl (fun mhM_12 hM_12 => ?_)
        subst hM_12
        refine w_if_neB (n := 34) (tgt := 36) O dX7_metal_31 (by decide) rfl (fun c_13 => ?_) (fun c_13 => ?_)
        · skip
          have hr_j := c_13
          obtain ⟨j, ja, jb, rfl⟩ := wIn_t (by omega) c_13 (by omega)
          have cl_j : (nI j).toNatClampNeg = j := nI_clamp (by omega)
          refine w_iload_n (n := 37) O dX7_metal_36 rfl rfl rfl ?_
          refine w_if_neN (n := 40) (tgt := 48) O dX7_metal_37 (by omega) (by decide) rfl (fun c_14 => ?_) (fun c_14 => ?_)
          · skip
            refine w_iload_n (n := 49) O dX7_metal_48 rfl rfl rfl ?_
            refine w_iconst (n := 50) O dX7_metal_49 (v := (nI 1)) (by decide) rfl ?_
            refine w_icmp_neN (n := 53) (tgt := 65) O dX7_metal_50 (by omega) (by omega) (by decide) rfl (fun c_15 => ?_) (fun c_15 => ?_)
            · skip
              refine w_aload_n (n := 66) O dX7_metal_65 rfl rfl rfl ?_
              refine w_getf (n := 69) O 0 dX7_metal_66 (by omega) h49 rfl (by decide) uX7 uf_X7_7 rfl rfl ?_
              refine w_bipush (n := 71) O dX7_metal_69 (v := (nI 27)) (by decide) rfl ?_
              refine w_iload_n (n := 72) O dX7_metal_71 rfl rfl rfl ?_
              refine w_iaddN (n := 73) O dX7_metal_72 rfl ?_
              refine w_ialdP (n := 74) (v := T.2.2.1 k) O dX7_metal_73 hW.2.1 (by omega) h50 (by omega) (by decide) (by omega) (hpg.2.2.1 k (by omega)).2 rfl ?_
              refine w_iret O dX7_metal_74 ?_
              have e0 : a_metal T (nI k) (nI j) = (nI (T.2.2.1 k)) := by unfold a_metal; rw [if_pos ⟨by rw [wIn_n (by omega) (by decide) (by decide), decide_eq_true (Nat.zero_le k), decide_eq_true (show k ≤ 3 by omega)]; rfl, by rw [if_neg (show ¬ nI k = nI 3 from fun z => by have := (nI_eq (by omega) (by decide)).mp z; omega)]; exact hr_j⟩, if_neg (fun z => by have := (nI_eq (by omega) (by decide)).mp z; omega), if_pos (by rw [show j = 2 by omega]), cl_k]
              rw [e0] at hQ
              try dsimp only at hQ
              exact hQ (mM) ⟨_, _, _, _, _, _, _, _, _, _, _, _, _, _, _, _, _, _, _, _, h49, h50, h51, h52, h53, h54, h55, h56, h57, h58, h59, h60, htm, hpg, hIm, hSe, hLa, hLe, hCe⟩ sm.rf
            · skip
              refine w_aload_n (n := 54) O dX7_metal_53 rfl rfl rfl ?_
              refine w_getf (n := 57) O 0 dX7_metal_54 (by omega) h49 rfl (by decide) uX7 uf_X7_7 rfl rfl ?_
              refine w_bipush (n := 59) O dX7_metal_57 (v := (nI 21)) (by decide) rfl ?_
              refine w_iload_n (n := 60) O dX7_metal_59 rfl rfl rfl ?_
              refine w_iaddN (n := 61) O dX7_metal_60 rfl ?_
              refine w_ialdP (n := 62) (v := T.2.1 k) O dX7_metal_61 hW.2.1 (by omega) h50 (by omega) (by decide) (by omega) (hpg.2.2.1 k (by omega)).1 rfl ?_
              refine w_goto (tgt := 74) O dX7_metal_62 (by decide) ?_
              refine w_iret O dX7_metal_74 ?_
              have e0 : a_metal T (nI k) (nI j) = (nI (T.2.1 k)) := by unfold a_metal; rw [if_pos ⟨by rw [wIn_n (by omega) (by decide) (by decide), decide_eq_true (Nat.zero_le k), decide_eq_true (show k ≤ 3 by omega)]; rfl, by rw [if_neg (show ¬ nI k = nI 3 from fun z => by have := (nI_eq (by omega) (by decide)).mp z; omega)]; exact hr_j⟩, if_pos (by rw [c_15]), cl_k]
              rw [e0] at hQ
              try dsimp only at hQ
              exact hQ (mM) ⟨_, _, _, _, _, _, _, _, _, _, _, _, _, _, _, _, _, _, _, _, h49, h50, h51, h52, h53, h54, h55, h56, h57, h58, h59, h60, htm, hpg, hIm, hSe, hLa, hLe, hCe⟩ sm.rf
          · skip
            refine w_aload_n (n := 41) O dX7_metal_40 rfl rfl rfl ?_
            refine w_iload_n (n := 42) O dX7_metal_41 rfl rfl rfl ?_
            refine w_cV (n := 45) (ro := some (.int (nI (bAm T k)))) (R := fun mM' => mM = mM') (st := []) (st1 := [.int (nI (bAm T k))]) (As := [.int (nI (k))]) (b := 49) O dX7_metal_42 ul_X7_175 um_X7_inBell (f_X7_inBell0 (s := s) (T := T) (tm := tm) hW ⟨h50, hpg, _, _, _, _, _, _, _, _, _, _, _, _, _, _, _, _, h49⟩ ok htm (by omega) ⟨rfl, rfl⟩) rfl (by omega) h49 rfl rfl rfl rfl (by decide) (Nat.le_of_ble_eq_true rfl) rfl (fun mhM_16 hM_16 => ?_)
            subst hM_16
            refine w_goto (tgt := 74) O dX7_metal_45 (by decide) ?_
            refine w_iret O dX7_metal_74 ?_
            have e0 : a_metal T (nI k) (nI j) = (nI (bAm T k)) := by unfold a_metal; rw [if_pos ⟨by rw [wIn_n (by omega) (by decide) (by decide), decide_eq_true (Nat.zero_le k), decide_eq_true (show k ≤ 3 by omega)]; rfl, by rw [if_neg (show ¬ nI k = nI 3 from fun z => by have := (nI_eq (by omega) (by decide)).mp z; omega)]; exact hr_j⟩, if_neg (fun z => by have := (nI_eq (by omega) (by decide)).mp z; omega), if_neg (fun z => by have := (nI_eq (by omega) (by decide)).mp z; omega), cl_k]
            rw [e0] at hQ
            try dsimp only at hQ
            exact hQ (mM) ⟨_, _, _, _, _, _, _, _, _, _, _, _, _, _, _, _, _, _, _, _, h49, h50, h51, h52, h53, h54, h55, h56, h57, h58, h59, h60, htm, hpg, hIm, hSe, hLa, hLe, hCe⟩ sm.rf
        · skip
          refine w_iconst (n := 35) O dX7_metal_34 (v := (-1)) (by decide) rfl ?_
          refine w_iret O dX7_metal_35 ?_
          have e0 : a_metal T (nI k) x = -1 := by unfold a_metal; exact if_neg (met_no (fun z => c_9 (z.2.trans nI_0)) (Or.inr c_13))
          rw [e0] at hQ
          try dsimp only at hQ
          exact hQ (mM) ⟨_, _, _, _, _, _, _, _, _, _, _, _, _, _, _, _, _, _, _, _, h49, h50, h51, h52, h53, h54, h55, h56, h57, h58, h59, h60, htm, hpg, hIm, hSe, hLa, hLe, hCe⟩ sm.rf
    · skip
      refine w_aload_n (n := 10) O dX7_metal_9 rfl rfl rfl ?_
      refine w_iconst (n := 11) O dX7_metal_10 (v := (nI 3)) (by decide) rfl ?_
      refine w_cV (n := 14) (ro := some (.int (nI (mAmt T (tGives T) 3)))) (R := fun mM' => mM = mM') (st := []) (st1 := [.int (nI (mAmt T (tGives T) 3))]) (As := [.int (nI 3)]) (b := 49) O dX7_metal_11 ul_X7_172 um_X7_given (f_X7_given0 (s := s) (T := T) (tm := tm) hW ⟨h50, hpg, _, _, _, _, _, _, _, _, _, _, _, _, _, _, _, _, h49⟩ ok htm (by omega) ⟨rfl, rfl⟩) rfl (by omega) h49 rfl rfl rfl rfl (by decide) (Nat.le_of_ble_eq_true rfl) rfl (fun mhM_17 hM_17 => ?_)
      subst hM_17
      refine w_iret O dX7_metal_14 ?_
      have e0 : a_metal T m x = (nI (mAmt T (tGives T) 3)) := by unfold a_metal; rw [c_1, c_9]; rfl
      rw [e0] at hQ
      try dsimp only at hQ
      exact hQ (mM) ⟨_, _, _, _, _, _, _, _, _, _, _, _, _, _, _, _, _, _, _, _, h49, h50, h51, h52, h53, h54, h55, h56, h57, h58, h59, h60, htm, hpg, hIm, hSe, hLa, hLe, hCe⟩ sm.rf
set_option maxRecDepth 100000 in
set_option maxHeartbeats 4000000 in
theorem f_X7_bell {G : gb_G} (hW : gW G) {Q : Option Value → gb_M → Prop} {mM : gb_M} {T : Tw} {im : Nat → Tw} {kp : Nat → Bool} {bs : Nat → Nat} {ln fa : Nat} {st sf : Nat → Nat} {sn : Nat} {sh : Sh} {sc : Nat → Nat → Int32} {tn : Nat} (hok : okS T im kp bs ln fa st sf sn sh tn) (hM : isMW G mM T im kp bs ln fa st sf sn sh sc tn) {x : Int32}  (hQ : ∀ M', isMW G M' T im kp bs ln fa st sf sn sh sc tn → sm mM M' 49 60 → Q (some (.int (a_bell T x))) M') : Fn G 8 yX7_bell cX7_bell 2 (some .int) [.ref (gb_ad G 49), .int (x)] mM Q := by
  obtain ⟨s, se, le, rp, te, la, ce, tm, x3, x4, x5, x6, x7, x11, x12, x13, x14, x15, x16, x26, h49, h50, h51, h52, h53, h54, h55, h56, h57, h58, h59, h60, htm, hpg, hIm, hSe, hLa, hLe, hCe⟩ := hM
  have ok := hok.1
  have hn4 := ok.1
  have hst9 := hok.2.1
  have hln := hok.2.2.2.1
  have hsn6 := hok.2.2.2.2.2.2.1
  have hN := hW.2.2.1
  refine Fn.of hW.1 [(0, .ref (gb_ad G 49)), (1, .int (x))] (by decide) (Nat.le_of_ble_eq_true rfl) rfl ?_
  intro X O
  refine w_iload_n (n := 1) O dX7_bell_0 rfl rfl rfl ?_
  rcases sw_in x 4 (by decide) with ⟨wsw_1, hwsw_1, hxsw_1⟩ | sw_1
  · rcases (show wsw_1 = 0 ∨ wsw_1 = 1 ∨ wsw_1 = 2 ∨ wsw_1 = 3 ∨ wsw_1 = 4 by omega) with rfl | rfl | rfl | rfl | rfl
    · skip
      subst hxsw_1
      refine w_tableIn (tgt := 36) O dX7_bell_1 (by decide) (by decide) rfl (by decide) ?_
      refine w_aload_n (n := 37) O dX7_bell_36 rfl rfl rfl ?_
      refine w_cV (n := 40) (ro := some (.int (nI (bWt T)))) (R := fun mM' => mM = mM') (st := []) (st1 := [.int (nI (bWt T))]) (As := []) (b := 49) O dX7_bell_37 ul_X7_178 um_X7_weight (f_X7_weight0 (s := s) (T := T) (tm := tm) hW ⟨h50, hpg, _, _, _, _, _, _, _, _, _, _, _, _, _, _, _, _, h49⟩ ok htm  ⟨rfl, rfl⟩) rfl (by omega) h49 rfl rfl rfl rfl (by decide) (Nat.le_of_ble_eq_true rfl) rfl (fun mhM_2 hM_2 => ?_)
      subst hM_2
      refine w_iret O dX7_bell_40 ?_
      have e0 : a_bell T (nI 0) = (nI (bWt T)) := by unfold a_bell; rw [if_pos rfl]
      rw [e0] at hQ
      try dsimp only at hQ
      exact hQ (mM) ⟨_, _, _, _, _, _, _, _, _, _, _, _, _, _, _, _, _, _, _, _, h49, h50, h51, h52, h53, h54, h55, h56, h57, h58, h59, h60, htm, hpg, hIm, hSe, hLa, hLe, hCe⟩ sm.rf
    · skip
      subst hxsw_1
      refine w_tableIn (tgt := 41) O dX7_bell_1 (by decide) (by decide) rfl (by decide) ?_
      refine w_aload_n (n := 42) O dX7_bell_41 rfl rfl rfl ?_
      refine w_cV (n := 45) (ro := some (.int (oI (pNote (bAm T) (bWt T))))) (R := fun mM' => mM = mM') (st := []) (st1 := [.int (oI (pNote (bAm T) (bWt T)))]) (As := []) (b := 49) O dX7_bell_42 ul_X7_181 um_X7_note (f_X7_note0 (s := s) (T := T) (tm := tm) hW ⟨h50, hpg, _, _, _, _, _, _, _, _, _, _, _, _, _, _, _, _, h49⟩ ok htm  ⟨rfl, rfl⟩) rfl (by omega) h49 rfl rfl rfl rfl (by decide) (Nat.le_of_ble_eq_true rfl) rfl (fun mhM_3 hM_3 => ?_)
      subst hM_3
      refine w_iret O dX7_bell_45 ?_
      have e0 : a_bell T (nI 1) = (oI (pNote (bAm T) (bWt T))) := by unfold a_bell; rw [if_neg (by decide), if_pos rfl]
      rw [e0] at hQ
      try dsimp only at hQ
      exact hQ (mM) ⟨_, _, _, _, _, _, _, _, _, _, _, _, _, _, _, _, _, _, _, _, h49, h50, h51, h52, h53, h54, h55, h56, h57, h58, h59, h60, htm, hpg, hIm, hSe, hLa, hLe, hCe⟩ sm.rf
    · skip
      subst hxsw_1
      refine w_tableIn (tgt := 46) O dX7_bell_1 (by decide) (by decide) rfl (by decide) ?_
      refine w_aload_n (n := 47) O dX7_bell_46 rfl rfl rfl ?_
      refine w_cV (n := 50) (ro := some (.int (nI (pSweet (bAm T) (bWt T))))) (R := fun mM' => mM = mM') (st := []) (st1 := [.int (nI (pSweet (bAm T) (bWt T)))]) (As := []) (b := 49) O dX7_bell_47 ul_X7_184 um_X7_sweet (f_X7_sweet0 (s := s) (T := T) (tm := tm) hW ⟨h50, hpg, _, _, _, _, _, _, _, _, _, _, _, _, _, _, _, _, h49⟩ ok htm  ⟨rfl, rfl⟩) rfl (by omega) h49 rfl rfl rfl rfl (by decide) (Nat.le_of_ble_eq_true rfl) rfl (fun mhM_4 hM_4 => ?_)
      subst hM_4
      refine w_iret O dX7_bell_50 ?_
      have e0 : a_bell T (nI 2) = (nI (pSweet (bAm T) (bWt T))) := by unfold a_bell; rw [if_neg (by decide), if_neg (by decide), if_pos rfl]
      rw [e0] at hQ
      try dsimp only at hQ
      exact hQ (mM) ⟨_, _, _, _, _, _, _, _, _, _, _, _, _, _, _, _, _, _, _, _, h49, h50, h51, h52, h53, h54, h55, h56, h57, h58, h59, h60, htm, hpg, hIm, hSe, hLa, hLe, hCe⟩ sm.rf
    · skip
      subst hxsw_1
      refine w_tableIn (tgt := 51) O dX7_bell_1 (by decide) (by decide) rfl (by decide) ?_
      refine w_aload_n (n := 52) O dX7_bell_51 rfl rfl rfl ?_
      refine w_cV (n := 55) (ro := some (.int (bI (tTrue T)))) (R := fun mM' => mM = mM') (st := []) (st1 := [.int (bI (tTrue T))]) (As := []) (b := 49) O dX7_bell_52 ul_X7_190 um_X7_rings (f_X7_rings0 (s := s) (T := T) (tm := tm) hW ⟨h50, hpg, _, _, _, _, _, _, _, _, _, _, _, _, _, _, _, _, h49⟩ ok htm  ⟨rfl, rfl⟩) rfl (by omega) h49 rfl rfl rfl rfl (by decide) (Nat.le_of_ble_eq_true rfl) rfl (fun mhM_5 hM_5 => ?_)
      subst hM_5
      refine w_if_eqB (n := 58) (tgt := 62) O dX7_bell_55 (by decide) rfl (fun c_6 => ?_) (fun c_6 => ?_)
      · skip
        refine w_iconst (n := 63) O dX7_bell_62 (v := (nI 0)) (by decide) rfl ?_
        refine w_iret O dX7_bell_63 ?_
        have e0 : a_bell T (nI 3) = (nI (0)) := by unfold a_bell; rw [if_neg (by decide), if_neg (by decide), if_neg (by decide), if_pos rfl, c_6]; rfl
        rw [e0] at hQ
        try dsimp only at hQ
        exact hQ (mM) ⟨_, _, _, _, _, _, _, _, _, _, _, _, _, _, _, _, _, _, _, _, h49, h50, h51, h52, h53, h54, h55, h56, h57, h58, h59, h60, htm, hpg, hIm, hSe, hLa, hLe, hCe⟩ sm.rf
      · skip
        refine w_iconst (n := 59) O dX7_bell_58 (v := (nI 1)) (by decide) rfl ?_
        refine w_goto (tgt := 63) O dX7_bell_59 (by decide) ?_
        refine w_iret O dX7_bell_63 ?_
        have e0 : a_bell T (nI 3) = (nI (1)) := by unfold a_bell; rw [if_neg (by decide), if_neg (by decide), if_neg (by decide), if_pos rfl, c_6]; rfl
        rw [e0] at hQ
        try dsimp only at hQ
        exact hQ (mM) ⟨_, _, _, _, _, _, _, _, _, _, _, _, _, _, _, _, _, _, _, _, h49, h50, h51, h52, h53, h54, h55, h56, h57, h58, h59, h60, htm, hpg, hIm, hSe, hLa, hLe, hCe⟩ sm.rf
    · skip
      subst hxsw_1
      refine w_tableIn (tgt := 64) O dX7_bell_1 (by decide) (by decide) rfl (by decide) ?_
      refine w_aload_n (n := 65) O dX7_bell_64 rfl rfl rfl ?_
      refine w_cV (n := 68) (ro := some (.int (nI (sBits (fun g => decide (tGives T g < tShare T g)) T.2.2.2.1)))) (R := fun mM' => mM = mM') (st := []) (st1 := [.int (nI (sBits (fun g => decide (tGives T g < tShare T g)) T.2.2.2.1))]) (As := []) (b := 49) O dX7_bell_65 ul_X7_194 um_X7_flaws (f_X7_flaws (s := s) (T := T) (tm := tm) hW ⟨h50, hpg, _, _, _, _, _, _, _, _, _, _, _, _, _, _, _, _, h49⟩ ok htm  ⟨rfl, rfl⟩) rfl (by omega) h49 rfl rfl rfl rfl (by decide) (Nat.le_of_ble_eq_true rfl) rfl (fun mhM_7 hM_7 => ?_)
      subst hM_7
      refine w_iret O dX7_bell_68 ?_
      have e0 : a_bell T (nI 4) = (nI (sBits (fun g => decide (tGives T g < tShare T g)) T.2.2.2.1)) := by unfold a_bell; rw [if_neg (by decide), if_neg (by decide), if_neg (by decide), if_neg (by decide), if_pos rfl]
      rw [e0] at hQ
      try dsimp only at hQ
      exact hQ (mM) ⟨_, _, _, _, _, _, _, _, _, _, _, _, _, _, _, _, _, _, _, _, h49, h50, h51, h52, h53, h54, h55, h56, h57, h58, h59, h60, htm, hpg, hIm, hSe, hLa, hLe, hCe⟩ sm.rf
  · skip
    refine w_tableOut (tgt := 69) O dX7_bell_1 (by first | exact sw_1 | omega) (by decide) ?_
    refine w_iconst (n := 70) O dX7_bell_69 (v := (-1)) (by decide) rfl ?_
    refine w_iret O dX7_bell_70 ?_
    have e0 : a_bell T x = (-1) := by unfold a_bell; rw [if_neg (fun e => by rw [e] at sw_1; revert sw_1; decide), if_neg (fun e => by rw [e] at sw_1; revert sw_1; decide), if_neg (fun e => by rw [e] at sw_1; revert sw_1; decide), if_neg (fun e => by rw [e] at sw_1; revert sw_1; decide), if_neg (fun e => by rw [e] at sw_1; revert sw_1; decide)]
    rw [e0] at hQ
    try dsimp only at hQ
    exact hQ (mM) ⟨_, _, _, _, _, _, _, _, _, _, _, _, _, _, _, _, _, _, _, _, h49, h50, h51, h52, h53, h54, h55, h56, h57, h58, h59, h60, htm, hpg, hIm, hSe, hLa, hLe, hCe⟩ sm.rf
set_option maxRecDepth 100000 in
set_option maxHeartbeats 4000000 in
theorem f_X7_tap {G : gb_G} (hW : gW G) {Q : Option Value → gb_M → Prop} {mM : gb_M} {T : Tw} {im : Nat → Tw} {kp : Nat → Bool} {bs : Nat → Nat} {ln fa : Nat} {st sf : Nat → Nat} {sn : Nat} {sh : Sh} {sc : Nat → Nat → Int32} {tn : Nat} (hok : okS T im kp bs ln fa st sf sn sh tn) (hM : isMW G mM T im kp bs ln fa st sf sn sh sc tn) {x : Int32}  (hQ : ∀ M', isMW G M' T im kp bs ln fa st sf sn sh sc tn → sm mM M' 49 60 → Q (some (.int (a_tap T x))) M') : Fn G 7 yX7_tap cX7_tap 2 (some .int) [.ref (gb_ad G 49), .int (x)] mM Q := by
  obtain ⟨s, se, le, rp, te, la, ce, tm, x3, x4, x5, x6, x7, x11, x12, x13, x14, x15, x16, x26, h49, h50, h51, h52, h53, h54, h55, h56, h57, h58, h59, h60, htm, hpg, hIm, hSe, hLa, hLe, hCe⟩ := hM
  have ok := hok.1
  have hn4 := ok.1
  have hst9 := hok.2.1
  have hln := hok.2.2.2.1
  have hsn6 := hok.2.2.2.2.2.2.1
  have hN := hW.2.2.1
  refine Fn.of hW.1 [(0, .ref (gb_ad G 49)), (1, .int (x))] (by decide) (Nat.le_of_ble_eq_true rfl) rfl ?_
  intro X O
  refine w_iload_n (n := 1) O dX7_tap_0 rfl rfl rfl ?_
  refine w_i2l (n := 2) O dX7_tap_1 rfl ?_
  refine w_lconst (n := 3) O dX7_tap_2 (v := lN 0) (by decide) rfl ?_
  refine w_ldc2 (n := 6) O dX7_tap_3 uc_X7_197 rfl ?_
  refine w_topl (lN 8) (by decide) ?_
  refine w_cS (n := 9) (ro := some (.int (bI (wIn (x) (nI 0) (nI 8))))) (R := fun mM' => mM = mM') (st := []) (st1 := [.int (bI (wIn (x) (nI 0) (nI 8)))]) (As := [.long ((x).toInt64), .long (lN 0), .long (lN 8)]) O dX7_tap_6 ul_X7_50 um_X7_in (f_X7_in (x := (x)) (y := (nI 0)) (z := (nI 8)) hW rfl (nI_l (by decide)).symm (nI_l (by decide)).symm ⟨rfl, rfl⟩) rfl rfl rfl (by decide) (Nat.le_of_ble_eq_true rfl) rfl (fun mhM_1 hM_1 => ?_)
  subst hM_1
  refine w_if_eqB (n := 12) (tgt := 20) O dX7_tap_9 (by decide) rfl (fun c_2 => ?_) (fun c_2 => ?_)
  · skip
    refine w_iconst (n := 21) O dX7_tap_20 (v := (-1)) (by decide) rfl ?_
    refine w_iret O dX7_tap_21 ?_
    have e0 : a_tap T x = -1 := by unfold a_tap; rw [if_neg (by rw [c_2]; decide)]
    rw [e0] at hQ
    try dsimp only at hQ
    exact hQ (mM) ⟨_, _, _, _, _, _, _, _, _, _, _, _, _, _, _, _, _, _, _, _, h49, h50, h51, h52, h53, h54, h55, h56, h57, h58, h59, h60, htm, hpg, hIm, hSe, hLa, hLe, hCe⟩ sm.rf
  · skip
    have hr_j := c_2
    obtain ⟨j, ja, jb, rfl⟩ := wIn_t (by omega) c_2 (by omega)
    have cl_j : (nI j).toNatClampNeg = j := nI_clamp (by omega)
    refine w_aload_n (n := 13) O dX7_tap_12 rfl rfl rfl ?_
    refine w_iload_n (n := 14) O dX7_tap_13 rfl rfl rfl ?_
    refine w_cV (n := 17) (ro := some (.int (nI (tTap T j)))) (R := fun mM' => mM = mM') (st := []) (st1 := [.int (nI (tTap T j))]) (As := [.int (nI (j))]) (b := 49) O dX7_tap_14 ul_X7_199 um_X7_taps (f_X7_taps (s := s) (T := T) (tm := tm) hW ⟨h50, hpg, _, _, _, _, _, _, _, _, _, _, _, _, _, _, _, _, h49⟩ ok htm (by omega) ⟨rfl, rfl⟩) rfl (by omega) h49 rfl rfl rfl rfl (by decide) (Nat.le_of_ble_eq_true rfl) rfl (fun mhM_3 hM_3 => ?_)
    subst hM_3
    refine w_goto (tgt := 21) O dX7_tap_17 (by decide) ?_
    refine w_iret O dX7_tap_21 ?_
    have e0 : a_tap T (nI j) = (nI (tTap T j)) := by unfold a_tap; rw [if_pos hr_j, cl_j]
    rw [e0] at hQ
    try dsimp only at hQ
    exact hQ (mM) ⟨_, _, _, _, _, _, _, _, _, _, _, _, _, _, _, _, _, _, _, _, h49, h50, h51, h52, h53, h54, h55, h56, h57, h58, h59, h60, htm, hpg, hIm, hSe, hLa, hLe, hCe⟩ sm.rf
