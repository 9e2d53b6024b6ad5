theorem imK {s s2 : Nat → Nat} {im : Nat → Tw} {kp : Nat → Bool} (h : ∀ k, k < 2 → kp k = true → pgO s (30 * (k + 1)) (im k)) (e : ∀ k, 30 ≤ k → s2 k = s k) : ∀ k, k < 2 → kp k = true → pgO s2 (30 * (k + 1)) (im k) := fun k h1 h2 => pgO_cong (h k h1 h2) (fun q h3 _ => e q (by omega))
theorem imK2 {s s2 : Nat → Nat} {im : Nat → Tw} {kp : Nat → Bool} (h : ∀ k, k < 2 → kp k = true → pgO s (30 * (k + 1)) (im k)) (e : ∀ k, k < 120 → s2 k = s k) : ∀ k, k < 2 → kp k = true → pgO s2 (30 * (k + 1)) (im k) := fun k h1 h2 => pgO_cong (h k h1 h2) (fun q _ h4 => e q (by omega))
set_option maxRecDepth 100000 in
set_option maxHeartbeats 4000000 in
theorem f_X7_alter {G : gb_G} (hW : gW G) {Q : Option Value → gb_M → Prop} {mM : gb_M} {T : Tw} {im : Nat → Tw} {kp : Nat → Bool} {bs : Nat → Nat} {ln fa : Nat} {st sf : Nat → Nat} {sn : Nat} {sh : Sh} {sc : Nat → Nat → Int32} {tn : Nat} (hok : okS T im kp bs ln fa st sf sn sh tn) (hM : isMW G mM T im kp bs ln fa st sf sn sh sc tn) {g x v : Int32}  (hQ : ∀ M', isMW G M' (s_alter T g x v) im kp bs ln fa st sf sn sh sc tn → sm mM M' 49 60 → Q (some (.int (a_alter T g x v))) M') : Fn G 2 yX7_alter cX7_alter 4 (some .int) [.ref (gb_ad G 49), .int (g), .int (x), .int (v)] mM Q := by
  obtain ⟨s, se, le, rp, te, la, ce, tm, x3, x4, x5, x6, x7, x11, x12, x13, x14, x15, x16, x26, h49, h50, h51, h52, h53, h54, h55, h56, h57, h58, h59, h60, htm, hpg, hIm, hSe, hLa, hLe, hCe⟩ := hM
  have ok := hok.1
  have hn4 := ok.1
  have hst9 := hok.2.1
  have hln := hok.2.2.2.1
  have hsn6 := hok.2.2.2.2.2.2.1
  have hN := hW.2.2.1
  refine Fn.of hW.1 [(0, .ref (gb_ad G 49)), (1, .int (g)), (2, .int (x)), (3, .int (v))] (by decide) (Nat.le_of_ble_eq_true rfl) rfl ?_
  intro X O
  refine w_aload_n (n := 1) O dX7_alter_0 rfl rfl rfl ?_
  refine w_iload_n (n := 2) O dX7_alter_1 rfl rfl rfl ?_
  refine w_cV (n := 5) (ro := some (.int (bI (isGv (g) T.2.2.2.1)))) (R := fun mM' => mM = mM') (st := []) (st1 := [.int (bI (isGv (g) T.2.2.2.1))]) (As := [.int (g)]) (b := 49) O dX7_alter_2 ul_X7_165 um_X7_isGiver (f_X7_isGiver (s := s) (T := T) (lo := 0) (li := 0) (to := none) (tm := tm) hW ⟨h50, hpg, _, _, _, _, _, _, _, _, _, _, _, _, _, _, _, _, h49⟩ ok  ⟨rfl, rfl⟩) rfl (by omega) h49 rfl rfl rfl rfl (by decide) (Nat.le_of_ble_eq_true rfl) rfl (fun mhM_1 hM_1 => ?_)
  subst hM_1
  refine w_if_neB (n := 8) (tgt := 10) O dX7_alter_5 (by decide) rfl (fun c_2 => ?_) (fun c_2 => ?_)
  · skip
    have hr_j := c_2
    obtain ⟨j, ja, rfl⟩ := isGv_t (by omega) c_2
    have cl_j : (nI j).toNatClampNeg = j := nI_clamp (by omega)
    refine w_iload_n (n := 11) O dX7_alter_10 rfl rfl rfl ?_
    rcases sw_in x 5 (by decide) with ⟨wsw_3, hwsw_3, hxsw_3⟩ | sw_3
    · rcases (show wsw_3 = 0 ∨ wsw_3 = 1 ∨ wsw_3 = 2 ∨ wsw_3 = 3 ∨ wsw_3 = 4 ∨ wsw_3 = 5 by omega) with rfl | rfl | rfl | rfl | rfl | rfl
      · skip
        subst hxsw_3
        refine w_tableIn (tgt := 48) O dX7_alter_11 (by decide) (by decide) rfl (by decide) ?_
        refine w_aload_n (n := 49) O dX7_alter_48 rfl rfl rfl ?_
        refine w_iload_n (n := 50) O dX7_alter_49 rfl rfl rfl ?_
        refine w_i2l (n := 51) O dX7_alter_50 rfl ?_
        refine w_lconst (n := 52) O dX7_alter_51 (v := lN 0) (by decide) rfl ?_
        refine w_ldc2 (n := 55) O dX7_alter_52 uc_X7_202 rfl ?_
        refine w_topl (lN 3) (by decide) ?_
        refine w_cS (n := 58) (ro := some (.int (bI (wIn (v) (nI 0) (nI 3))))) (R := fun mM' => mM = mM') (st := [.ref (gb_ad G 49)]) (st1 := [.int (bI (wIn (v) (nI 0) (nI 3))), .ref (gb_ad G 49)]) (As := [.long ((v).toInt64), .long (lN 0), .long (lN 3)]) O dX7_alter_55 ul_X7_50 um_X7_in (f_X7_in (x := (v)) (y := (nI 0)) (z := (nI 3)) hW rfl (nI_l (by decide)).symm (nI_l (by decide)).symm ⟨rfl, rfl⟩) rfl rfl rfl (by decide) (Nat.le_of_ble_eq_true rfl) rfl (fun mhM_4 hM_4 => ?_)
        subst hM_4
        refine w_iconst (n := 59) O dX7_alter_58 (v := (nI 4)) (by decide) rfl ?_
        refine w_iload_n (n := 60) O dX7_alter_59 rfl rfl rfl ?_
        refine w_imulN (n := 61) O dX7_alter_60 rfl ?_
        refine w_iload_n (n := 62) O dX7_alter_61 rfl rfl rfl ?_
        refine w_iaddN (n := 63) O dX7_alter_62 rfl ?_
        refine w_top (nI (j)) (by rw [show 4 * 0 + j = j by omega]) ?_
        refine w_iload_n (n := 64) O dX7_alter_63 rfl rfl rfl ?_
        refine w_iconst (n := 65) O dX7_alter_64 (v := (nI 0)) (by decide) rfl ?_
        by_cases hb : wIn (v) (nI 0) (nI 3) = true
        · skip
          have hr_q := hb
          obtain ⟨q, qa, qb, rfl⟩ := wIn_t (by decide) hb (by decide)
          have cl_q : (nI q).toNatClampNeg = q := nI_clamp (by omega)
          refine w_cV (n := 68) (ro := some (.int (nI (T.1 (j * 6 + 0))))) (R := fun mM' => mM' 50 = IA G 150 (pgI (upN s j q)) ∧ sm mM mM' 50 50) (st := []) (st1 := [.int (nI (T.1 (j * 6 + 0)))]) (As := [.int (bI (wIn (nI (q)) (nI 0) (nI 3))), .int (nI (j)), .int (nI (q)), .int (nI 0)]) (b := 49) O dX7_alter_65 ul_X7_204 um_X7_puts (f_X7_putsT (s := s) (T := T) (lo := 0) (li := 0) (to := none) (tm := tm) hW ⟨h50, hpg, _, _, _, _, _, _, _, _, _, _, _, _, _, _, _, _, h49⟩ (fun z => by rw [bI_0.mp z] at hb; exact absurd hb (by decide)) (i := j) (w := q) (by omega) (by omega) (fun M' h1 h2 => ⟨congrArg (fun z => some (Value.int (nI z))) (hpg.1 j (by omega)).1, h1, h2⟩)) rfl (by omega) h49 rfl rfl rfl rfl (by decide) (Nat.le_of_ble_eq_true rfl) rfl (fun mhM_5 hM_5 => ?_)
          obtain ⟨hphM_5, hshM_5⟩ := hM_5
          refine w_iret O dX7_alter_68 ?_
          have e0 : a_alter T (nI j) (nI 0) (nI q) = (nI (T.1 (j * 6 + 0))) := by unfold a_alter; rw [if_pos (by unfold altOk; rw [nI_clamp (show 0 < 2 ^ 31 by decide), hr_j, show wIn (nI q) (nI 0) (nI (gb_hig 0)) = true from hr_q]; rfl), cl_j, nI_clamp (show 0 < 2 ^ 31 by decide)]
          have e1 : s_alter T (nI j) (nI 0) (nI q) = (upN T.1 (j * 6 + 0) q, T.2) := by unfold s_alter; rw [if_pos (by unfold altOk; rw [nI_clamp (show 0 < 2 ^ 31 by decide), hr_j, show wIn (nI q) (nI 0) (nI (gb_hig 0)) = true from hr_q]; rfl), cl_j, nI_clamp (show 0 < 2 ^ 31 by decide), cl_q]
          rw [e0, e1] at hQ
          try dsimp only at hQ
          exact hQ (mhM_5) ⟨_, _, _, _, _, _, _, _, _, _, _, _, _, _, _, _, _, _, _, _, ((hshM_5 (49) (by omega)).trans h49), hphM_5, ((hshM_5 (51) (by omega)).trans h51), ((hshM_5 (52) (by omega)).trans h52), ((hshM_5 (53) (by omega)).trans h53), ((hshM_5 (54) (by omega)).trans h54), ((hshM_5 (55) (by omega)).trans h55), ((hshM_5 (56) (by omega)).trans h56), ((hshM_5 (57) (by omega)).trans h57), ((hshM_5 (58) (by omega)).trans h58), ((hshM_5 (59) (by omega)).trans h59), ((hshM_5 (60) (by omega)).trans h60), htm, (pg_kd hpg (by omega)), (imK hIm (fun k hk => upN_ne _ _ (by omega))), hSe, hLa, hLe, hCe⟩ (sm.rf.tr (hshM_5.mono (by omega) (by omega)))
        · have hbf : wIn (v) (nI 0) (nI 3) = false := by cases q9 : wIn (v) (nI 0) (nI 3) with | false => rfl | true => exact absurd q9 hb
          refine w_cV (n := 68) (ro := some (.int (-1))) (R := fun mM' => mM = mM') (st := []) (st1 := [.int (-1)]) (As := [.int (bI (wIn (v) (nI 0) (nI 3))), .int (nI (j)), .int (v), .int (nI 0)]) (b := 49) O dX7_alter_65 ul_X7_204 um_X7_puts (f_X7_putsF hW (bI_0.mpr hbf) ⟨rfl, rfl⟩) rfl (by omega) h49 rfl rfl rfl rfl (by decide) (Nat.le_of_ble_eq_true rfl) rfl (fun mhM_6 hM_6 => ?_)
          subst hM_6
          refine w_iret O dX7_alter_68 ?_
          have e0 : a_alter T (nI j) (nI 0) v = -1 := by unfold a_alter; rw [if_neg (by rw [show altOk T (nI j) (nI 0) v = false from by unfold altOk; rw [nI_clamp (show 0 < 2 ^ 31 by decide), show wIn v (nI 0) (nI (gb_hig 0)) = false from hbf]; simp]; decide)]
          have e1 : s_alter T (nI j) (nI 0) v = T := by unfold s_alter; rw [if_neg (by rw [show altOk T (nI j) (nI 0) v = false from by unfold altOk; rw [nI_clamp (show 0 < 2 ^ 31 by decide), show wIn v (nI 0) (nI (gb_hig 0)) = false from hbf]; simp]; decide)]
          rw [e0, e1] at hQ
          try dsimp only at hQ
          exact hQ (mM) ⟨_, _, _, _, _, _, _, _, _, _, _, _, _, _, _, _, _, _, _, _, h49, h50, h51, h52, h53, h54, h55, h56, h57, h58, h59, h60, htm, hpg, hIm, hSe, hLa, hLe, hCe⟩ sm.rf
      · skip
        subst hxsw_3
        refine w_tableIn (tgt := 69) O dX7_alter_11 (by decide) (by decide) rfl (by decide) ?_
        refine w_aload_n (n := 70) O dX7_alter_69 rfl rfl rfl ?_
        refine w_iload_n (n := 71) O dX7_alter_70 rfl rfl rfl ?_
        refine w_i2l (n := 72) O dX7_alter_71 rfl ?_
        refine w_lconst (n := 73) O dX7_alter_72 (v := lN 0) (by decide) rfl ?_
        refine w_ldc2 (n := 76) O dX7_alter_73 uc_X7_208 rfl ?_
        refine w_topl (lN 9) (by decide) ?_
        refine w_cS (n := 79) (ro := some (.int (bI (wIn (v) (nI 0) (nI 9))))) (R := fun mM' => mM = mM') (st := [.ref (gb_ad G 49)]) (st1 := [.int (bI (wIn (v) (nI 0) (nI 9))), .ref (gb_ad G 49)]) (As := [.long ((v).toInt64), .long (lN 0), .long (lN 9)]) O dX7_alter_76 ul_X7_50 um_X7_in (f_X7_in (x := (v)) (y := (nI 0)) (z := (nI 9)) hW rfl (nI_l (by decide)).symm (nI_l (by decide)).symm ⟨rfl, rfl⟩) rfl rfl rfl (by decide) (Nat.le_of_ble_eq_true rfl) rfl (fun mhM_7 hM_7 => ?_)
        subst hM_7
        refine w_iconst (n := 80) O dX7_alter_79 (v := (nI 4)) (by decide) rfl ?_
        refine w_iload_n (n := 81) O dX7_alter_80 rfl rfl rfl ?_
        refine w_iaddN (n := 82) O dX7_alter_81 rfl ?_
        refine w_iload_n (n := 83) O dX7_alter_82 rfl rfl rfl ?_
        refine w_iconst (n := 84) O dX7_alter_83 (v := (nI 0)) (by decide) rfl ?_
        by_cases hb : wIn (v) (nI 0) (nI 9) = true
        · skip
          have hr_q := hb
          obtain ⟨q, qa, qb, rfl⟩ := wIn_t (by decide) hb (by decide)
          have cl_q : (nI q).toNatClampNeg = q := nI_clamp (by omega)
          refine w_cV (n := 87) (ro := some (.int (nI (T.1 (j * 6 + 1))))) (R := fun mM' => mM' 50 = IA G 150 (pgI (upN s (4 + j) q)) ∧ sm mM mM' 50 50) (st := []) (st1 := [.int (nI (T.1 (j * 6 + 1)))]) (As := [.int (bI (wIn (nI (q)) (nI 0) (nI 9))), .int (nI ((4 + j))), .int (nI (q)), .int (nI 0)]) (b := 49) O dX7_alter_84 ul_X7_204 um_X7_puts (f_X7_putsT (s := s) (T := T) (lo := 0) (li := 0) (to := none) (tm := tm) hW ⟨h50, hpg, _, _, _, _, _, _, _, _, _, _, _, _, _, _, _, _, h49⟩ (fun z => by rw [bI_0.mp z] at hb; exact absurd hb (by decide)) (i := (4 + j)) (w := q) (by omega) (by omega) (fun M' h1 h2 => ⟨congrArg (fun z => some (Value.int (nI z))) (hpg.1 j (by omega)).2.1, h1, h2⟩)) rfl (by omega) h49 rfl rfl rfl rfl (by decide) (Nat.le_of_ble_eq_true rfl) rfl (fun mhM_8 hM_8 => ?_)
          obtain ⟨hphM_8, hshM_8⟩ := hM_8
          refine w_iret O dX7_alter_87 ?_
          have e0 : a_alter T (nI j) (nI 1) (nI q) = (nI (T.1 (j * 6 + 1))) := by unfold a_alter; rw [if_pos (by unfold altOk; rw [nI_clamp (show 1 < 2 ^ 31 by decide), hr_j, show wIn (nI q) (nI 0) (nI (gb_hig 1)) = true from hr_q]; rfl), cl_j, nI_clamp (show 1 < 2 ^ 31 by decide)]
          have e1 : s_alter T (nI j) (nI 1) (nI q) = (upN T.1 (j * 6 + 1) q, T.2) := by unfold s_alter; rw [if_pos (by unfold altOk; rw [nI_clamp (show 1 < 2 ^ 31 by decide), hr_j, show wIn (nI q) (nI 0) (nI (gb_hig 1)) = true from hr_q]; rfl), cl_j, nI_clamp (show 1 < 2 ^ 31 by decide), cl_q]
          rw [e0, e1] at hQ
          try dsimp only at hQ
          exact hQ (mhM_8) ⟨_, _, _, _, _, _, _, _, _, _, _, _, _, _, _, _, _, _, _, _, ((hshM_8 (49) (by omega)).trans h49), hphM_8, ((hshM_8 (51) (by omega)).trans h51), ((hshM_8 (52) (by omega)).trans h52), ((hshM_8 (53) (by omega)).trans h53), ((hshM_8 (54) (by omega)).trans h54), ((hshM_8 (55) (by omega)).trans h55), ((hshM_8 (56) (by omega)).trans h56), ((hshM_8 (57) (by omega)).trans h57), ((hshM_8 (58) (by omega)).trans h58), ((hshM_8 (59) (by omega)).trans h59), ((hshM_8 (60) (by omega)).trans h60), htm, (pg_gu hpg (by omega)), (imK hIm (fun k hk => upN_ne _ _ (by omega))), hSe, hLa, hLe, hCe⟩ (sm.rf.tr (hshM_8.mono (by omega) (by omega)))
        · have hbf : wIn (v) (nI 0) (nI 9) = false := by cases q9 : wIn (v) (nI 0) (nI 9) with | false => rfl | true => exact absurd q9 hb
          refine w_cV (n := 87) (ro := some (.int (-1))) (R := fun mM' => mM = mM') (st := []) (st1 := [.int (-1)]) (As := [.int (bI (wIn (v) (nI 0) (nI 9))), .int (nI ((4 + j))), .int (v), .int (nI 0)]) (b := 49) O dX7_alter_84 ul_X7_204 um_X7_puts (f_X7_putsF hW (bI_0.mpr hbf) ⟨rfl, rfl⟩) rfl (by omega) h49 rfl rfl rfl rfl (by decide) (Nat.le_of_ble_eq_true rfl) rfl (fun mhM_9 hM_9 => ?_)
          subst hM_9
          refine w_iret O dX7_alter_87 ?_
          have e0 : a_alter T (nI j) (nI 1) v = -1 := by unfold a_alter; rw [if_neg (by rw [show altOk T (nI j) (nI 1) v = false from by unfold altOk; rw [nI_clamp (show 1 < 2 ^ 31 by decide), show wIn v (nI 0) (nI (gb_hig 1)) = false from hbf]; simp]; decide)]
          have e1 : s_alter T (nI j) (nI 1) v = T := by unfold s_alter; rw [if_neg (by rw [show altOk T (nI j) (nI 1) v = false from by unfold altOk; rw [nI_clamp (show 1 < 2 ^ 31 by decide), show wIn v (nI 0) (nI (gb_hig 1)) = false from hbf]; simp]; decide)]
          rw [e0, e1] at hQ
          try dsimp only at hQ
          exact hQ (mM) ⟨_, _, _, _, _, _, _, _, _, _, _, _, _, _, _, _, _, _, _, _, h49, h50, h51, h52, h53, h54, h55, h56, h57, h58, h59, h60, htm, hpg, hIm, hSe, hLa, hLe, hCe⟩ sm.rf
      · skip
        subst hxsw_3
        refine w_tableIn (tgt := 48) O dX7_alter_11 (by decide) (by decide) rfl (by decide) ?_
        refine w_aload_n (n := 49) O dX7_alter_48 rfl rfl rfl ?_
        refine w_iload_n (n := 50) O dX7_alter_49 rfl rfl rfl ?_
        refine w_i2l (n := 51) O dX7_alter_50 rfl ?_
        refine w_lconst (n := 52) O dX7_alter_51 (v := lN 0) (by decide) rfl ?_
        refine w_ldc2 (n := 55) O dX7_alter_52 uc_X7_202 rfl ?_
        refine w_topl (lN 3) (by decide) ?_
        refine w_cS (n := 58) (ro := some (.int (bI (wIn (v) (nI 0) (nI 3))))) (R := fun mM' => mM = mM') (st := [.ref (gb_ad G 49)]) (st1 := [.int (bI (wIn (v) (nI 0) (nI 3))), .ref (gb_ad G 49)]) (As := [.long ((v).toInt64), .long (lN 0), .long (lN 3)]) O dX7_alter_55 ul_X7_50 um_X7_in (f_X7_in (x := (v)) (y := (nI 0)) (z := (nI 3)) hW rfl (nI_l (by decide)).symm (nI_l (by decide)).symm ⟨rfl, rfl⟩) rfl rfl rfl (by decide) (Nat.le_of_ble_eq_true rfl) rfl (fun mhM_10 hM_10 => ?_)
        subst hM_10
        refine w_iconst (n := 59) O dX7_alter_58 (v := (nI 4)) (by decide) rfl ?_
        refine w_iload_n (n := 60) O dX7_alter_59 rfl rfl rfl ?_
        refine w_imulN (n := 61) O dX7_alter_60 rfl ?_
        refine w_iload_n (n := 62) O dX7_alter_61 rfl rfl rfl ?_
        refine w_iaddN (n := 63) O dX7_alter_62 rfl ?_
        refine w_top (nI (8 + j)) (by rw [show 4 * 2 + j = 8 + j by omega]) ?_
        refine w_iload_n (n := 64) O dX7_alter_63 rfl rfl rfl ?_
        refine w_iconst (n := 65) O dX7_alter_64 (v := (nI 0)) (by decide) rfl ?_
        by_cases hb : wIn (v) (nI 0) (nI 3) = true
        · skip
          have hr_q := hb
          obtain ⟨q, qa, qb, rfl⟩ := wIn_t (by decide) hb (by decide)
          have cl_q : (nI q).toNatClampNeg = q := nI_clamp (by omega)
          refine w_cV (n := 68) (ro := some (.int (nI (T.1 (j * 6 + 2))))) (R := fun mM' => mM' 50 = IA G 150 (pgI (upN s (8 + j) q)) ∧ sm mM mM' 50 50) (st := []) (st1 := [.int (nI (T.1 (j * 6 + 2)))]) (As := [.int (bI (wIn (nI (q)) (nI 0) (nI 3))), .int (nI ((8 + j))), .int (nI (q)), .int (nI 0)]) (b := 49) O dX7_alter_65 ul_X7_204 um_X7_puts (f_X7_putsT (s := s) (T := T) (lo := 0) (li := 0) (to := none) (tm := tm) hW ⟨h50, hpg, _, _, _, _, _, _, _, _, _, _, _, _, _, _, _, _, h49⟩ (fun z => by rw [bI_0.mp z] at hb; exact absurd hb (by decide)) (i := (8 + j)) (w := q) (by omega) (by omega) (fun M' h1 h2 => ⟨congrArg (fun z => some (Value.int (nI z))) (hpg.1 j (by omega)).2.2.1, h1, h2⟩)) rfl (by omega) h49 rfl rfl rfl rfl (by decide) (Nat.le_of_ble_eq_true rfl) rfl (fun mhM_11 hM_11 => ?_)
          obtain ⟨hphM_11, hshM_11⟩ := hM_11
          refine w_iret O dX7_alter_68 ?_
          have e0 : a_alter T (nI j) (nI 2) (nI q) = (nI (T.1 (j * 6 + 2))) := by unfold a_alter; rw [if_pos (by unfold altOk; rw [nI_clamp (show 2 < 2 ^ 31 by decide), hr_j, show wIn (nI q) (nI 0) (nI (gb_hig 2)) = true from hr_q]; rfl), cl_j, nI_clamp (show 2 < 2 ^ 31 by decide)]
          have e1 : s_alter T (nI j) (nI 2) (nI q) = (upN T.1 (j * 6 + 2) q, T.2) := by unfold s_alter; rw [if_pos (by unfold altOk; rw [nI_clamp (show 2 < 2 ^ 31 by decide), hr_j, show wIn (nI q) (nI 0) (nI (gb_hig 2)) = true from hr_q]; rfl), cl_j, nI_clamp (show 2 < 2 ^ 31 by decide), cl_q]
          rw [e0, e1] at hQ
          try dsimp only at hQ
          exact hQ (mhM_11) ⟨_, _, _, _, _, _, _, _, _, _, _, _, _, _, _, _, _, _, _, _, ((hshM_11 (49) (by omega)).trans h49), hphM_11, ((hshM_11 (51) (by omega)).trans h51), ((hshM_11 (52) (by omega)).trans h52), ((hshM_11 (53) (by omega)).trans h53), ((hshM_11 (54) (by omega)).trans h54), ((hshM_11 (55) (by omega)).trans h55), ((hshM_11 (56) (by omega)).trans h56), ((hshM_11 (57) (by omega)).trans h57), ((hshM_11 (58) (by omega)).trans h58), ((hshM_11 (59) (by omega)).trans h59), ((hshM_11 (60) (by omega)).trans h60), htm, (pg_me hpg (by omega)), (imK hIm (fun k hk => upN_ne _ _ (by omega))), hSe, hLa, hLe, hCe⟩ (sm.rf.tr (hshM_11.mono (by omega) (by omega)))
        · have hbf : wIn (v) (nI 0) (nI 3) = false := by cases q9 : wIn (v) (nI 0) (nI 3) with | false => rfl | true => exact absurd q9 hb
          refine w_cV (n := 68) (ro := some (.int (-1))) (R := fun mM' => mM = mM') (st := []) (st1 := [.int (-1)]) (As := [.int (bI (wIn (v) (nI 0) (nI 3))), .int (nI ((8 + j))), .int (v), .int (nI 0)]) (b := 49) O dX7_alter_65 ul_X7_204 um_X7_puts (f_X7_putsF hW (bI_0.mpr hbf) ⟨rfl, rfl⟩) rfl (by omega) h49 rfl rfl rfl rfl (by decide) (Nat.le_of_ble_eq_true rfl) rfl (fun mhM_12 hM_12 => ?_)
          subst hM_12
          refine w_iret O dX7_alter_68 ?_
          have e0 : a_alter T (nI j) (nI 2) v = -1 := by unfold a_alter; rw [if_neg (by rw [show altOk T (nI j) (nI 2) v = false from by unfold altOk; rw [nI_clamp (show 2 < 2 ^ 31 by decide), show wIn v (nI 0) (nI (gb_hig 2)) = false from hbf]; simp]; decide)]
          have e1 : s_alter T (nI j) (nI 2) v = T := by unfold s_alter; rw [if_neg (by rw [show altOk T (nI j) (nI 2) v = false from by unfold altOk; rw [nI_clamp (show 2 < 2 ^ 31 by decide), show wIn v (nI 0) (nI (gb_hig 2)) = false from hbf]; simp]; decide)]
          rw [e0, e1] at hQ
          try dsimp only at hQ
          exact hQ (mM) ⟨_, _, _, _, _, _, _, _, _, _, _, _, _, _, _, _, _, _, _, _, h49, h50, h51, h52, h53, h54, h55, h56, h57, h58, h59, h60, htm, hpg, hIm, hSe, hLa, hLe, hCe⟩ sm.rf
      · skip
        subst hxsw_3
        refine w_tableIn (tgt := 48) O dX7_alter_11 (by decide) (by decide) rfl (by decide) ?_
        refine w_aload_n (n := 49) O dX7_alter_48 rfl rfl rfl ?_
        refine w_iload_n (n := 50) O dX7_alter_49 rfl rfl rfl ?_
        refine w_i2l (n := 51) O dX7_alter_50 rfl ?_
        refine w_lconst (n := 52) O dX7_alter_51 (v := lN 0) (by decide) rfl ?_
        refine w_ldc2 (n := 55) O dX7_alter_52 uc_X7_202 rfl ?_
        refine w_topl (lN 3) (by decide) ?_
        refine w_cS (n := 58) (ro := some (.int (bI (wIn (v) (nI 0) (nI 3))))) (R := fun mM' => mM = mM') (st := [.ref (gb_ad G 49)]) (st1 := [.int (bI (wIn (v) (nI 0) (nI 3))), .ref (gb_ad G 49)]) (As := [.long ((v).toInt64), .long (lN 0), .long (lN 3)]) O dX7_alter_55 ul_X7_50 um_X7_in (f_X7_in (x := (v)) (y := (nI 0)) (z := (nI 3)) hW rfl (nI_l (by decide)).symm (nI_l (by decide)).symm ⟨rfl, rfl⟩) rfl rfl rfl (by decide) (Nat.le_of_ble_eq_true rfl) rfl (fun mhM_13 hM_13 => ?_)
        subst hM_13
        refine w_iconst (n := 59) O dX7_alter_58 (v := (nI 4)) (by decide) rfl ?_
        refine w_iload_n (n := 60) O dX7_alter_59 rfl rfl rfl ?_
        refine w_imulN (n := 61) O dX7_alter_60 rfl ?_
        refine w_iload_n (n := 62) O dX7_alter_61 rfl rfl rfl ?_
        refine w_iaddN (n := 63) O dX7_alter_62 rfl ?_
        refine w_top (nI (12 + j)) (by rw [show 4 * 3 + j = 12 + j by omega]) ?_
        refine w_iload_n (n := 64) O dX7_alter_63 rfl rfl rfl ?_
        refine w_iconst (n := 65) O dX7_alter_64 (v := (nI 0)) (by decide) rfl ?_
        by_cases hb : wIn (v) (nI 0) (nI 3) = true
        · skip
          have hr_q := hb
          obtain ⟨q, qa, qb, rfl⟩ := wIn_t (by decide) hb (by decide)
          have cl_q : (nI q).toNatClampNeg = q := nI_clamp (by omega)
          refine w_cV (n := 68) (ro := some (.int (nI (T.1 (j * 6 + 3))))) (R := fun mM' => mM' 50 = IA G 150 (pgI (upN s (12 + j) q)) ∧ sm mM mM' 50 50) (st := []) (st1 := [.int (nI (T.1 (j * 6 + 3)))]) (As := [.int (bI (wIn (nI (q)) (nI 0) (nI 3))), .int (nI ((12 + j))), .int (nI (q)), .int (nI 0)]) (b := 49) O dX7_alter_65 ul_X7_204 um_X7_puts (f_X7_putsT (s := s) (T := T) (lo := 0) (li := 0) (to := none) (tm := tm) hW ⟨h50, hpg, _, _, _, _, _, _, _, _, _, _, _, _, _, _, _, _, h49⟩ (fun z => by rw [bI_0.mp z] at hb; exact absurd hb (by decide)) (i := (12 + j)) (w := q) (by omega) (by omega) (fun M' h1 h2 => ⟨congrArg (fun z => some (Value.int (nI z))) (hpg.1 j (by omega)).2.2.2.1, h1, h2⟩)) rfl (by omega) h49 rfl rfl rfl rfl (by decide) (Nat.le_of_ble_eq_true rfl) rfl (fun mhM_14 hM_14 => ?_)
          obtain ⟨hphM_14, hshM_14⟩ := hM_14
          refine w_iret O dX7_alter_68 ?_
          have e0 : a_alter T (nI j) (nI 3) (nI q) = (nI (T.1 (j * 6 + 3))) := by unfold a_alter; rw [if_pos (by unfold altOk; rw [nI_clamp (show 3 < 2 ^ 31 by decide), hr_j, show wIn (nI q) (nI 0) (nI (gb_hig 3)) = true from hr_q]; rfl), cl_j, nI_clamp (show 3 < 2 ^ 31 by decide)]
          have e1 : s_alter T (nI j) (nI 3) (nI q) = (upN T.1 (j * 6 + 3) q, T.2) := by unfold s_alter; rw [if_pos (by unfold altOk; rw [nI_clamp (show 3 < 2 ^ 31 by decide), hr_j, show wIn (nI q) (nI 0) (nI (gb_hig 3)) = true from hr_q]; rfl), cl_j, nI_clamp (show 3 < 2 ^ 31 by decide), cl_q]
          rw [e0, e1] at hQ
          try dsimp only at hQ
          exact hQ (mhM_14) ⟨_, _, _, _, _, _, _, _, _, _, _, _, _, _, _, _, _, _, _, _, ((hshM_14 (49) (by omega)).trans h49), hphM_14, ((hshM_14 (51) (by omega)).trans h51), ((hshM_14 (52) (by omega)).trans h52), ((hshM_14 (53) (by omega)).trans h53), ((hshM_14 (54) (by omega)).trans h54), ((hshM_14 (55) (by omega)).trans h55), ((hshM_14 (56) (by omega)).trans h56), ((hshM_14 (57) (by omega)).trans h57), ((hshM_14 (58) (by omega)).trans h58), ((hshM_14 (59) (by omega)).trans h59), ((hshM_14 (60) (by omega)).trans h60), htm, (pg_de hpg (by omega)), (imK hIm (fun k hk => upN_ne _ _ (by omega))), hSe, hLa, hLe, hCe⟩ (sm.rf.tr (hshM_14.mono (by omega) (by omega)))
        · have hbf : wIn (v) (nI 0) (nI 3) = false := by cases q9 : wIn (v) (nI 0) (nI 3) with | false => rfl | true => exact absurd q9 hb
          refine w_cV (n := 68) (ro := some (.int (-1))) (R := fun mM' => mM = mM') (st := []) (st1 := [.int (-1)]) (As := [.int (bI (wIn (v) (nI 0) (nI 3))), .int (nI ((12 + j))), .int (v), .int (nI 0)]) (b := 49) O dX7_alter_65 ul_X7_204 um_X7_puts (f_X7_putsF hW (bI_0.mpr hbf) ⟨rfl, rfl⟩) rfl (by omega) h49 rfl rfl rfl rfl (by decide) (Nat.le_of_ble_eq_true rfl) rfl (fun mhM_15 hM_15 => ?_)
          subst hM_15
          refine w_iret O dX7_alter_68 ?_
          have e0 : a_alter T (nI j) (nI 3) v = -1 := by unfold a_alter; rw [if_neg (by rw [show altOk T (nI j) (nI 3) v = false from by unfold altOk; rw [nI_clamp (show 3 < 2 ^ 31 by decide), show wIn v (nI 0) (nI (gb_hig 3)) = false from hbf]; simp]; decide)]
          have e1 : s_alter T (nI j) (nI 3) v = T := by unfold s_alter; rw [if_neg (by rw [show altOk T (nI j) (nI 3) v = false from by unfold altOk; rw [nI_clamp (show 3 < 2 ^ 31 by decide), show wIn v (nI 0) (nI (gb_hig 3)) = false from hbf]; simp]; decide)]
          rw [e0, e1] at hQ
          try dsimp only at hQ
          exact hQ (mM) ⟨_, _, _, _, _, _, _, _, _, _, _, _, _, _, _, _, _, _, _, _, h49, h50, h51, h52, h53, h54, h55, h56, h57, h58, h59, h60, htm, hpg, hIm, hSe, hLa, hLe, hCe⟩ sm.rf
      · skip
        subst hxsw_3
        refine w_tableIn (tgt := 88) O dX7_alter_11 (by decide) (by decide) rfl (by decide) ?_
        refine w_aload_n (n := 89) O dX7_alter_88 rfl rfl rfl ?_
        refine w_iload_n (n := 90) O dX7_alter_89 rfl rfl rfl ?_
        refine w_iload_n (n := 91) O dX7_alter_90 rfl rfl rfl ?_
        by_cases hb : wIn (v) (nI 0) (nI 1) = true
        · skip
          have hr_q := hb
          obtain ⟨q, qa, qb, rfl⟩ := wIn_t (by decide) hb (by decide)
          have cl_q : (nI q).toNatClampNeg = q := nI_clamp (by omega)
          refine w_cV (n := 94) (ro := some (.int (nI (T.1 (j * 6 + 4))))) (R := fun mM' => mM' 50 = IA G 150 (pgI (upN s 20 (sbU (s 20) j q))) ∧ sm mM mM' 50 50) (st := []) (st1 := [.int (nI (T.1 (j * 6 + 4)))]) (As := [.int (nI (j)), .int (nI (q))]) (b := 49) O dX7_alter_91 ul_X7_210 um_X7_sorrows (f_X7_sorrowsT (s := s) (T := T) (lo := 0) (li := 0) (to := none) (tm := tm) hW ⟨h50, hpg, _, _, _, _, _, _, _, _, _, _, _, _, _, _, _, _, h49⟩ ok ja qb hr_q (fun M' h1 h2 => ⟨rfl, h1, h2⟩)) rfl (by omega) h49 rfl rfl rfl rfl (by decide) (Nat.le_of_ble_eq_true rfl) rfl (fun mhM_16 hM_16 => ?_)
          obtain ⟨hphM_16, hshM_16⟩ := hM_16
          refine w_iret O dX7_alter_94 ?_
          have e0 : a_alter T (nI j) (nI 4) (nI q) = (nI (T.1 (j * 6 + 4))) := by unfold a_alter; rw [if_pos (by unfold altOk; rw [nI_clamp (show 4 < 2 ^ 31 by decide), hr_j, show wIn (nI q) (nI 0) (nI (gb_hig 4)) = true from hr_q]; rfl), cl_j, nI_clamp (show 4 < 2 ^ 31 by decide)]
          have e1 : s_alter T (nI j) (nI 4) (nI q) = (upN T.1 (j * 6 + 4) q, T.2) := by unfold s_alter; rw [if_pos (by unfold altOk; rw [nI_clamp (show 4 < 2 ^ 31 by decide), hr_j, show wIn (nI q) (nI 0) (nI (gb_hig 4)) = true from hr_q]; rfl), cl_j, nI_clamp (show 4 < 2 ^ 31 by decide), cl_q]
          rw [e0, e1] at hQ
          try dsimp only at hQ
          exact hQ (mhM_16) ⟨_, _, _, _, _, _, _, _, _, _, _, _, _, _, _, _, _, _, _, _, ((hshM_16 (49) (by omega)).trans h49), hphM_16, ((hshM_16 (51) (by omega)).trans h51), ((hshM_16 (52) (by omega)).trans h52), ((hshM_16 (53) (by omega)).trans h53), ((hshM_16 (54) (by omega)).trans h54), ((hshM_16 (55) (by omega)).trans h55), ((hshM_16 (56) (by omega)).trans h56), ((hshM_16 (57) (by omega)).trans h57), ((hshM_16 (58) (by omega)).trans h58), ((hshM_16 (59) (by omega)).trans h59), ((hshM_16 (60) (by omega)).trans h60), htm, (pg_so hpg hn4 ja (by omega)), (imK hIm (fun k hk => upN_ne _ _ (by omega))), hSe, hLa, hLe, hCe⟩ (sm.rf.tr (hshM_16.mono (by omega) (by omega)))
        · have hbf : wIn (v) (nI 0) (nI 1) = false := by cases q9 : wIn (v) (nI 0) (nI 1) with | false => rfl | true => exact absurd q9 hb
          refine w_cV (n := 94) (ro := some (.int (-1))) (R := fun mM' => mM = mM') (st := []) (st1 := [.int (-1)]) (As := [.int (nI (j)), .int (v)]) (b := 49) O dX7_alter_91 ul_X7_210 um_X7_sorrows (f_X7_sorrowsF hW hbf ⟨rfl, rfl⟩) rfl (by omega) h49 rfl rfl rfl rfl (by decide) (Nat.le_of_ble_eq_true rfl) rfl (fun mhM_17 hM_17 => ?_)
          subst hM_17
          refine w_iret O dX7_alter_94 ?_
          have e0 : a_alter T (nI j) (nI 4) v = -1 := by unfold a_alter; rw [if_neg (by rw [show altOk T (nI j) (nI 4) v = false from by unfold altOk; rw [nI_clamp (show 4 < 2 ^ 31 by decide), show wIn v (nI 0) (nI (gb_hig 4)) = false from hbf]; simp]; decide)]
          have e1 : s_alter T (nI j) (nI 4) v = T := by unfold s_alter; rw [if_neg (by rw [show altOk T (nI j) (nI 4) v = false from by unfold altOk; rw [nI_clamp (show 4 < 2 ^ 31 by decide), show wIn v (nI 0) (nI (gb_hig 4)) = false from hbf]; simp]; decide)]
          rw [e0, e1] at hQ
          try dsimp only at hQ
          exact hQ (mM) ⟨_, _, _, _, _, _, _, _, _, _, _, _, _, _, _, _, _, _, _, _, h49, h50, h51, h52, h53, h54, h55, h56, h57, h58, h59, h60, htm, hpg, hIm, hSe, hLa, hLe, hCe⟩ sm.rf
      · skip
        subst hxsw_3
        refine w_tableIn (tgt := 95) O dX7_alter_11 (by decide) (by decide) rfl (by decide) ?_
        refine w_aload_n (n := 96) O dX7_alter_95 rfl rfl rfl ?_
        refine w_iload_n (n := 97) O dX7_alter_96 rfl rfl rfl ?_
        refine w_i2l (n := 98) O dX7_alter_97 rfl ?_
        refine w_lconst (n := 99) O dX7_alter_98 (v := lN 0) (by decide) rfl ?_
        refine w_ldc2 (n := 102) O dX7_alter_99 uc_X7_208 rfl ?_
        refine w_topl (lN 9) (by decide) ?_
        refine w_cS (n := 105) (ro := some (.int (bI (wIn (v) (nI 0) (nI 9))))) (R := fun mM' => mM = mM') (st := [.ref (gb_ad G 49)]) (st1 := [.int (bI (wIn (v) (nI 0) (nI 9))), .ref (gb_ad G 49)]) (As := [.long ((v).toInt64), .long (lN 0), .long (lN 9)]) O dX7_alter_102 ul_X7_50 um_X7_in (f_X7_in (x := (v)) (y := (nI 0)) (z := (nI 9)) hW rfl (nI_l (by decide)).symm (nI_l (by decide)).symm ⟨rfl, rfl⟩) rfl rfl rfl (by decide) (Nat.le_of_ble_eq_true rfl) rfl (fun mhM_18 hM_18 => ?_)
        subst hM_18
        refine w_bipush (n := 107) O dX7_alter_105 (v := (nI 16)) (by decide) rfl ?_
        refine w_iload_n (n := 108) O dX7_alter_107 rfl rfl rfl ?_
        refine w_iaddN (n := 109) O dX7_alter_108 rfl ?_
        refine w_iload_n (n := 110) O dX7_alter_109 rfl rfl rfl ?_
        refine w_iconst (n := 111) O dX7_alter_110 (v := (nI 0)) (by decide) rfl ?_
        by_cases hb : wIn (v) (nI 0) (nI 9) = true
        · skip
          have hr_q := hb
          obtain ⟨q, qa, qb, rfl⟩ := wIn_t (by decide) hb (by decide)
          have cl_q : (nI q).toNatClampNeg = q := nI_clamp (by omega)
          refine w_cV (n := 114) (ro := some (.int (nI (T.1 (j * 6 + 5))))) (R := fun mM' => mM' 50 = IA G 150 (pgI (upN s (16 + j) q)) ∧ sm mM mM' 50 50) (st := []) (st1 := [.int (nI (T.1 (j * 6 + 5)))]) (As := [.int (bI (wIn (nI (q)) (nI 0) (nI 9))), .int (nI ((16 + j))), .int (nI (q)), .int (nI 0)]) (b := 49) O dX7_alter_111 ul_X7_204 um_X7_puts (f_X7_putsT (s := s) (T := T) (lo := 0) (li := 0) (to := none) (tm := tm) hW ⟨h50, hpg, _, _, _, _, _, _, _, _, _, _, _, _, _, _, _, _, h49⟩ (fun z => by rw [bI_0.mp z] at hb; exact absurd hb (by decide)) (i := (16 + j)) (w := q) (by omega) (by omega) (fun M' h1 h2 => ⟨congrArg (fun z => some (Value.int (nI z))) (hpg.1 j (by omega)).2.2.2.2, h1, h2⟩)) rfl (by omega) h49 rfl rfl rfl rfl (by decide) (Nat.le_of_ble_eq_true rfl) rfl (fun mhM_19 hM_19 => ?_)
          obtain ⟨hphM_19, hshM_19⟩ := hM_19
          refine w_iret O dX7_alter_114 ?_
          have e0 : a_alter T (nI j) (nI 5) (nI q) = (nI (T.1 (j * 6 + 5))) := by unfold a_alter; rw [if_pos (by unfold altOk; rw [nI_clamp (show 5 < 2 ^ 31 by decide), hr_j, show wIn (nI q) (nI 0) (nI (gb_hig 5)) = true from hr_q]; rfl), cl_j, nI_clamp (show 5 < 2 ^ 31 by decide)]
          have e1 : s_alter T (nI j) (nI 5) (nI q) = (upN T.1 (j * 6 + 5) q, T.2) := by unfold s_alter; rw [if_pos (by unfold altOk; rw [nI_clamp (show 5 < 2 ^ 31 by decide), hr_j, show wIn (nI q) (nI 0) (nI (gb_hig 5)) = true from hr_q]; rfl), cl_j, nI_clamp (show 5 < 2 ^ 31 by decide), cl_q]
          rw [e0, e1] at hQ
          try dsimp only at hQ
          exact hQ (mhM_19) ⟨_, _, _, _, _, _, _, _, _, _, _, _, _, _, _, _, _, _, _, _, ((hshM_19 (49) (by omega)).trans h49), hphM_19, ((hshM_19 (51) (by omega)).trans h51), ((hshM_19 (52) (by omega)).trans h52), ((hshM_19 (53) (by omega)).trans h53), ((hshM_19 (54) (by omega)).trans h54), ((hshM_19 (55) (by omega)).trans h55), ((hshM_19 (56) (by omega)).trans h56), ((hshM_19 (57) (by omega)).trans h57), ((hshM_19 (58) (by omega)).trans h58), ((hshM_19 (59) (by omega)).trans h59), ((hshM_19 (60) (by omega)).trans h60), htm, (pg_ho hpg (by omega)), (imK hIm (fun k hk => upN_ne _ _ (by omega))), hSe, hLa, hLe, hCe⟩ (sm.rf.tr (hshM_19.mono (by omega) (by omega)))
        · have hbf : wIn (v) (nI 0) (nI 9) = false := by cases q9 : wIn (v) (nI 0) (nI 9) with | false => rfl | true => exact absurd q9 hb
          refine w_cV (n := 114) (ro := some (.int (-1))) (R := fun mM' => mM = mM') (st := []) (st1 := [.int (-1)]) (As := [.int (bI (wIn (v) (nI 0) (nI 9))), .int (nI ((16 + j))), .int (v), .int (nI 0)]) (b := 49) O dX7_alter_111 ul_X7_204 um_X7_puts (f_X7_putsF hW (bI_0.mpr hbf) ⟨rfl, rfl⟩) rfl (by omega) h49 rfl rfl rfl rfl (by decide) (Nat.le_of_ble_eq_true rfl) rfl (fun mhM_20 hM_20 => ?_)
          subst hM_20
          refine w_iret O dX7_alter_114 ?_
          have e0 : a_alter T (nI j) (nI 5) v = -1 := by unfold a_alter; rw [if_neg (by rw [show altOk T (nI j) (nI 5) v = false from by unfold altOk; rw [nI_clamp (show 5 < 2 ^ 31 by decide), show wIn v (nI 0) (nI (gb_hig 5)) = false from hbf]; simp]; decide)]
          have e1 : s_alter T (nI j) (nI 5) v = T := by unfold s_alter; rw [if_neg (by rw [show altOk T (nI j) (nI 5) v = false from by unfold altOk; rw [nI_clamp (show 5 < 2 ^ 31 by decide), show wIn v (nI 0) (nI (gb_hig 5)) = false from hbf]; simp]; decide)]
          rw [e0, e1] at hQ
          try dsimp only at hQ
          exact hQ (mM) ⟨_, _, _, _, _, _, _, _, _, _, _, _, _, _, _, _, _, _, _, _, h49, h50, h51, h52, h53, h54, h55, h56, h57, h58, h59, h60, htm, hpg, hIm, hSe, hLa, hLe, hCe⟩ sm.rf
    · skip
      refine w_tableOut (tgt := 115) O dX7_alter_11 (by first | exact sw_3 | omega) (by decide) ?_
      refine w_iconst (n := 116) O dX7_alter_115 (v := (-1)) (by decide) rfl ?_
      refine w_iret O dX7_alter_116 ?_
      have e0 : a_alter T (nI j) x v = -1 := by unfold a_alter; rw [if_neg (by rw [show altOk T (nI j) x v = false from by unfold altOk; rw [show wIn x (nI 0) (nI 5) = false from by cases q8 : wIn x (nI 0) (nI 5) with | false => rfl | true => (obtain ⟨w9, w9a, w9b, rfl⟩ := wIn_t (by decide) q8 (by decide); revert sw_3; rw [nI_toInt (by omega)]; omega)]; simp]; decide)]
      have e1 : s_alter T (nI j) x v = T := by unfold s_alter; rw [if_neg (by rw [show altOk T (nI j) x v = false from by unfold altOk; rw [show wIn x (nI 0) (nI 5) = false from by cases q8 : wIn x (nI 0) (nI 5) with | false => rfl | true => (obtain ⟨w9, w9a, w9b, rfl⟩ := wIn_t (by decide) q8 (by decide); revert sw_3; rw [nI_toInt (by omega)]; omega)]; simp]; decide)]
      rw [e0, e1] at hQ
      try dsimp only at hQ
      exact hQ (mM) ⟨_, _, _, _, _, _, _, _, _, _, _, _, _, _, _, _, _, _, _, _, h49, h50, h51, h52, h53, h54, h55, h56, h57, h58, h59, h60, htm, hpg, hIm, hSe, hLa, hLe, hCe⟩ sm.rf
  · skip
    refine w_iconst (n := 9) O dX7_alter_8 (v := (-1)) (by decide) rfl ?_
    refine w_iret O dX7_alter_9 ?_
    have e0 : a_alter T g x v = -1 := by unfold a_alter; rw [if_neg (by rw [show altOk T g x v = false from by simp [altOk, c_2]]; decide)]
    have e1 : s_alter T g x v = T := by unfold s_alter; rw [if_neg (by rw [show altOk T g x v = false from by simp [altOk, c_2]]; decide)]
    rw [e0, e1] at hQ
    try dsimp only at hQ
    exact hQ (mM) ⟨_, _, _, _, _, _, _, _, _, _, _, _, _, _, _, _, _, _, _, _, h49, h50, h51, h52, h53, h54, h55, h56, h57, h58, h59, h60, htm, hpg, hIm, hSe, hLa, hLe, hCe⟩ sm.rf
set_option maxRecDepth 100000 in
set_option maxHeartbeats 4000000 in
theorem f_X7_add {G : gb_G} (hW : gW G) {Q : Option Value → gb_M → Prop} {mM : gb_M} {T : Tw} {im : Nat → Tw} {kp : Nat → Bool} {bs : Nat → Nat} {ln fa : Nat} {st sf : Nat → Nat} {sn : Nat} {sh : Sh} {sc : Nat → Nat → Int32} {tn : Nat} (hok : okS T im kp bs ln fa st sf sn sh tn) (hM : isMW G mM T im kp bs ln fa st sf sn sh sc tn) {m v : Int32}  (hQ : ∀ M', isMW G M' (s_add T m v) im kp bs ln fa st sf sn sh sc tn → sm mM M' 49 60 → Q (some (.int (a_add T m v))) M') : Fn G 2 yX7_add cX7_add 3 (some .int) [.ref (gb_ad G 49), .int (m), .int (v)] mM Q := by
  obtain ⟨s, se, le, rp, te, la, ce, tm, x3, x4, x5, x6, x7, x11, x12, x13, x14, x15, x16, x26, h49, h50, h51, h52, h53, h54, h55, h56, h57, h58, h59, h60, htm, hpg, hIm, hSe, hLa, hLe, hCe⟩ := hM
  have ok := hok.1
  have hn4 := ok.1
  have hst9 := hok.2.1
  have hln := hok.2.2.2.1
  have hsn6 := hok.2.2.2.2.2.2.1
  have hN := hW.2.2.1
  refine Fn.of hW.1 [(0, .ref (gb_ad G 49)), (1, .int (m)), (2, .int (v))] (by decide) (Nat.le_of_ble_eq_true rfl) rfl ?_
  intro X O
  refine w_aload_n (n := 1) O dX7_add_0 rfl rfl rfl ?_
  refine w_iload_n (n := 2) O dX7_add_1 rfl rfl rfl ?_
  refine w_cS (n := 5) (ro := some (.int (bI (wIn (m) (nI 0) (nI 2))))) (R := fun mM' => mM = mM') (st := [.ref (gb_ad G 49)]) (st1 := [.int (bI (wIn (m) (nI 0) (nI 2))), .ref (gb_ad G 49)]) (As := [.int (m)]) O dX7_add_2 ul_X7_187 um_X7_isMetal (f_X7_isMetal hW ⟨rfl, rfl⟩) rfl rfl rfl (by decide) (Nat.le_of_ble_eq_true rfl) rfl (fun mhM_1 hM_1 => ?_)
  subst hM_1
  refine w_if_eqB (n := 8) (tgt := 24) O dX7_add_5 (by decide) rfl (fun c_2 => ?_) (fun c_2 => ?_)
  · skip
    refine w_iconst (n := 25) O dX7_add_24 (v := (nI 0)) (by decide) rfl ?_
    refine w_bipush (n := 27) O dX7_add_25 (v := (nI 21)) (by decide) rfl ?_
    refine w_iload_n (n := 28) O dX7_add_27 rfl rfl rfl ?_
    refine w_iadd (n := 29) O dX7_add_28 rfl ?_
    refine w_iload_n (n := 30) O dX7_add_29 rfl rfl rfl ?_
    refine w_iconst (n := 31) O dX7_add_30 (v := (nI 0)) (by decide) rfl ?_
    refine w_cV (n := 34) (ro := some (.int (-1))) (R := fun mM' => mM = mM') (st := []) (st1 := [.int (-1)]) (As := [.int (nI 0), .int (((nI (21)) + (m))), .int (v), .int (nI 0)]) (b := 49) O dX7_add_31 ul_X7_204 um_X7_puts (f_X7_putsF hW (by decide) ⟨rfl, rfl⟩) rfl (by omega) h49 rfl rfl rfl rfl (by decide) (Nat.le_of_ble_eq_true rfl) rfl (fun mhM_3 hM_3 => ?_)
    subst hM_3
    refine w_iret O dX7_add_34 ?_
    have e0 : a_add T m v = -1 := by unfold a_add; rw [if_neg (by rw [show addOk m v = false from by simp [addOk, c_2]]; decide)]
    have e1 : s_add T m v = T := by unfold s_add; rw [if_neg (by rw [show addOk m v = false from by simp [addOk, c_2]]; decide)]
    rw [e0, e1] at hQ
    try dsimp only at hQ
    exact hQ (mM) ⟨_, _, _, _, _, _, _, _, _, _, _, _, _, _, _, _, _, _, _, _, h49, h50, h51, h52, h53, h54, h55, h56, h57, h58, h59, h60, htm, hpg, hIm, hSe, hLa, hLe, hCe⟩ sm.rf
  · skip
    have hr_j := c_2
    obtain ⟨j, ja, jb, rfl⟩ := wIn_t (by omega) c_2 (by omega)
    have cl_j : (nI j).toNatClampNeg = j := nI_clamp (by omega)
    refine w_iload_n (n := 9) O dX7_add_8 rfl rfl rfl ?_
    refine w_i2l (n := 10) O dX7_add_9 rfl ?_
    refine w_lconst (n := 11) O dX7_add_10 (v := lN 0) (by decide) rfl ?_
    refine w_ldc2 (n := 14) O dX7_add_11 uc_X7_213 rfl ?_
    refine w_topl (lN 40) (by decide) ?_
    refine w_cS (n := 17) (ro := some (.int (bI (wIn (v) (nI 0) (nI 40))))) (R := fun mM' => mM = mM') (st := [.ref (gb_ad G 49)]) (st1 := [.int (bI (wIn (v) (nI 0) (nI 40))), .ref (gb_ad G 49)]) (As := [.long ((v).toInt64), .long (lN 0), .long (lN 40)]) O dX7_add_14 ul_X7_50 um_X7_in (f_X7_in (x := (v)) (y := (nI 0)) (z := (nI 40)) hW rfl (nI_l (by decide)).symm (nI_l (by decide)).symm ⟨rfl, rfl⟩) rfl rfl rfl (by decide) (Nat.le_of_ble_eq_true rfl) rfl (fun mhM_4 hM_4 => ?_)
    subst hM_4
    refine w_if_eqB (n := 20) (tgt := 24) O dX7_add_17 (by decide) rfl (fun c_5 => ?_) (fun c_5 => ?_)
    · skip
      refine w_iconst (n := 25) O dX7_add_24 (v := (nI 0)) (by decide) rfl ?_
      refine w_bipush (n := 27) O dX7_add_25 (v := (nI 21)) (by decide) rfl ?_
      refine w_iload_n (n := 28) O dX7_add_27 rfl rfl rfl ?_
      refine w_iaddN (n := 29) O dX7_add_28 rfl ?_
      refine w_iload_n (n := 30) O dX7_add_29 rfl rfl rfl ?_
      refine w_iconst (n := 31) O dX7_add_30 (v := (nI 0)) (by decide) rfl ?_
      refine w_cV (n := 34) (ro := some (.int (-1))) (R := fun mM' => mM = mM') (st := []) (st1 := [.int (-1)]) (As := [.int (nI 0), .int (nI ((21 + j))), .int (v), .int (nI 0)]) (b := 49) O dX7_add_31 ul_X7_204 um_X7_puts (f_X7_putsF hW (by decide) ⟨rfl, rfl⟩) rfl (by omega) h49 rfl rfl rfl rfl (by decide) (Nat.le_of_ble_eq_true rfl) rfl (fun mhM_6 hM_6 => ?_)
      subst hM_6
      refine w_iret O dX7_add_34 ?_
      have e0 : a_add T (nI j) v = -1 := by unfold a_add; rw [if_neg (by rw [show addOk (nI j) v = false from by simp [addOk, c_5]]; decide)]
      have e1 : s_add T (nI j) v = T := by unfold s_add; rw [if_neg (by rw [show addOk (nI j) v = false from by simp [addOk, c_5]]; decide)]
      rw [e0, e1] at hQ
      try dsimp only at hQ
      exact hQ (mM) ⟨_, _, _, _, _, _, _, _, _, _, _, _, _, _, _, _, _, _, _, _, h49, h50, h51, h52, h53, h54, h55, h56, h57, h58, h59, h60, htm, hpg, hIm, hSe, hLa, hLe, hCe⟩ sm.rf
    · skip
      have hr_q := c_5
      obtain ⟨q, qa, qb, rfl⟩ := wIn_t (by omega) c_5 (by omega)
      have cl_q : (nI q).toNatClampNeg = q := nI_clamp (by omega)
      refine w_iconst (n := 21) O dX7_add_20 (v := (nI 1)) (by decide) rfl ?_
      refine w_goto (tgt := 25) O dX7_add_21 (by decide) ?_
      refine w_bipush (n := 27) O dX7_add_25 (v := (nI 21)) (by decide) rfl ?_
      refine w_iload_n (n := 28) O dX7_add_27 rfl rfl rfl ?_
      refine w_iaddN (n := 29) O dX7_add_28 rfl ?_
      refine w_iload_n (n := 30) O dX7_add_29 rfl rfl rfl ?_
      refine w_iconst (n := 31) O dX7_add_30 (v := (nI 0)) (by decide) rfl ?_
      refine w_cV (n := 34) (ro := some (.int (nI (T.2.1 j)))) (R := fun mM' => mM' 50 = IA G 150 (pgI (upN s (21 + j) q)) ∧ sm mM mM' 50 50) (st := []) (st1 := [.int (nI (T.2.1 j))]) (As := [.int (nI 1), .int (nI ((21 + j))), .int (nI (q)), .int (nI 0)]) (b := 49) O dX7_add_31 ul_X7_204 um_X7_puts (f_X7_putsT (s := s) (T := T) (lo := 0) (li := 0) (to := none) (tm := tm) hW ⟨h50, hpg, _, _, _, _, _, _, _, _, _, _, _, _, _, _, _, _, h49⟩ (by decide) (i := (21 + j)) (w := q) (by omega) (by omega) (fun M' h1 h2 => ⟨congrArg (fun z => some (Value.int (nI z))) (hpg.2.2.1 j (by omega)).1, h1, h2⟩)) rfl (by omega) h49 rfl rfl rfl rfl (by decide) (Nat.le_of_ble_eq_true rfl) rfl (fun mhM_7 hM_7 => ?_)
      obtain ⟨hphM_7, hshM_7⟩ := hM_7
      refine w_iret O dX7_add_34 ?_
      have e0 : a_add T (nI j) (nI q) = (nI (T.2.1 j)) := by unfold a_add; rw [if_pos (by unfold addOk; rw [hr_j, hr_q]; rfl), cl_j]
      have e1 : s_add T (nI j) (nI q) = (T.1, upN T.2.1 j q, T.2.2) := by unfold s_add; rw [if_pos (by unfold addOk; rw [hr_j, hr_q]; rfl), cl_j, cl_q]
      rw [e0, e1] at hQ
      try dsimp only at hQ
      exact hQ (mhM_7) ⟨_, _, _, _, _, _, _, _, _, _, _, _, _, _, _, _, _, _, _, _, ((hshM_7 (49) (by omega)).trans h49), hphM_7, ((hshM_7 (51) (by omega)).trans h51), ((hshM_7 (52) (by omega)).trans h52), ((hshM_7 (53) (by omega)).trans h53), ((hshM_7 (54) (by omega)).trans h54), ((hshM_7 (55) (by omega)).trans h55), ((hshM_7 (56) (by omega)).trans h56), ((hshM_7 (57) (by omega)).trans h57), ((hshM_7 (58) (by omega)).trans h58), ((hshM_7 (59) (by omega)).trans h59), ((hshM_7 (60) (by omega)).trans h60), htm, (pg_ad hpg (by omega)), (imK hIm (fun k hk => upN_ne _ _ (by omega))), hSe, hLa, hLe, hCe⟩ (sm.rf.tr (hshM_7.mono (by omega) (by omega)))
set_option maxRecDepth 100000 in
set_option maxHeartbeats 4000000 in
theorem f_X7_ask {G : gb_G} (hW : gW G) {Q : Option Value → gb_M → Prop} {mM : gb_M} {T : Tw} {im : Nat → Tw} {kp : Nat → Bool} {bs : Nat → Nat} {ln fa : Nat} {st sf : Nat → Nat} {sn : Nat} {sh : Sh} {sc : Nat → Nat → Int32} {tn : Nat} (hok : okS T im kp bs ln fa st sf sn sh tn) (hM : isMW G mM T im kp bs ln fa st sf sn sh sc tn) {x v : Int32}  (hQ : ∀ M', isMW G M' (s_ask T x v) im kp bs ln fa st sf sn sh sc tn → sm mM M' 49 60 → Q (some (.int (a_ask T x v))) M') : Fn G 1 yX7_ask cX7_ask 3 (some .int) [.ref (gb_ad G 49), .int (x), .int (v)] mM Q := by
  obtain ⟨s, se, le, rp, te, la, ce, tm, x3, x4, x5, x6, x7, x11, x12, x13, x14, x15, x16, x26, h49, h50, h51, h52, h53, h54, h55, h56, h57, h58, h59, h60, htm, hpg, hIm, hSe, hLa, hLe, hCe⟩ := hM
  have ok := hok.1
  have hn4 := ok.1
  have hst9 := hok.2.1
  have hln := hok.2.2.2.1
  have hsn6 := hok.2.2.2.2.2.2.1
  have hN := hW.2.2.1
  refine Fn.of hW.1 [(0, .ref (gb_ad G 49)), (1, .int (x)), (2, .int (v))] (by decide) (Nat.le_of_ble_eq_true rfl) rfl ?_
  intro X O
  refine w_iload_n (n := 1) O dX7_ask_0 rfl rfl rfl ?_
  refine w_if_ne (n := 4) (tgt := 27) O dX7_ask_1 (by decide) rfl (fun c_1 => ?_) (fun c_1 => ?_)
  · skip
    refine w_aload_n (n := 28) O dX7_ask_27 rfl rfl rfl ?_
    refine w_iload_n (n := 29) O dX7_ask_28 rfl rfl rfl ?_
    refine w_iconst (n := 30) O dX7_ask_29 (v := (nI 1)) (by decide) rfl ?_
    refine w_icmp_ne (n := 33) (tgt := 49) O dX7_ask_30 (by decide) rfl (fun c_2 => ?_) (fun c_2 => ?_)
    · skip
      refine w_iconst (n := 50) O dX7_ask_49 (v := (nI 0)) (by decide) rfl ?_
      refine w_bipush (n := 52) O dX7_ask_50 (v := (nI 25)) (by decide) rfl ?_
      refine w_iload_n (n := 53) O dX7_ask_52 rfl rfl rfl ?_
      refine w_iconst (n := 54) O dX7_ask_53 (v := (nI 0)) (by decide) rfl ?_
      refine w_cV (n := 57) (ro := some (.int (-1))) (R := fun mM' => mM = mM') (st := []) (st1 := [.int (-1)]) (As := [.int (nI 0), .int (nI 25), .int (v), .int (nI 0)]) (b := 49) O dX7_ask_54 ul_X7_204 um_X7_puts (f_X7_putsF hW (by decide) ⟨rfl, rfl⟩) rfl (by omega) h49 rfl rfl rfl rfl (by decide) (Nat.le_of_ble_eq_true rfl) rfl (fun mhM_3 hM_3 => ?_)
      subst hM_3
      refine w_iret O dX7_ask_57 ?_
      have e0 : a_ask T x v = -1 := by unfold a_ask; rw [if_neg (fun z => c_1 z.1), if_neg (fun z => c_2 z.1)]
      have e1 : s_ask T x v = T := by unfold s_ask; rw [if_neg (fun z => c_1 z.1), if_neg (fun z => c_2 z.1)]
      rw [e0, e1] at hQ
      try dsimp only at hQ
      exact hQ (mM) ⟨_, _, _, _, _, _, _, _, _, _, _, _, _, _, _, _, _, _, _, _, h49, h50, h51, h52, h53, h54, h55, h56, h57, h58, h59, h60, htm, hpg, hIm, hSe, hLa, hLe, hCe⟩ sm.rf
    · skip
      refine w_iload_n (n := 34) O dX7_ask_33 rfl rfl rfl ?_
      refine w_i2l (n := 35) O dX7_ask_34 rfl ?_
      refine w_lconst (n := 36) O dX7_ask_35 (v := lN 0) (by decide) rfl ?_
      refine w_ldc2 (n := 39) O dX7_ask_36 uc_X7_217 rfl ?_
      refine w_topl (lN 10) (by decide) ?_
      refine w_cS (n := 42) (ro := some (.int (bI (wIn (v) (nI 0) (nI 10))))) (R := fun mM' => mM = mM') (st := [.ref (gb_ad G 49)]) (st1 := [.int (bI (wIn (v) (nI 0) (nI 10))), .ref (gb_ad G 49)]) (As := [.long ((v).toInt64), .long (lN 0), .long (lN 10)]) O dX7_ask_39 ul_X7_50 um_X7_in (f_X7_in (x := (v)) (y := (nI 0)) (z := (nI 10)) hW rfl (nI_l (by decide)).symm (nI_l (by decide)).symm ⟨rfl, rfl⟩) rfl rfl rfl (by decide) (Nat.le_of_ble_eq_true rfl) rfl (fun mhM_4 hM_4 => ?_)
      subst hM_4
      refine w_if_eqB (n := 45) (tgt := 49) O dX7_ask_42 (by decide) rfl (fun c_5 => ?_) (fun c_5 => ?_)
      · skip
        refine w_iconst (n := 50) O dX7_ask_49 (v := (nI 0)) (by decide) rfl ?_
        refine w_bipush (n := 52) O dX7_ask_50 (v := (nI 25)) (by decide) rfl ?_
        refine w_iload_n (n := 53) O dX7_ask_52 rfl rfl rfl ?_
        refine w_iconst (n := 54) O dX7_ask_53 (v := (nI 0)) (by decide) rfl ?_
        refine w_cV (n := 57) (ro := some (.int (-1))) (R := fun mM' => mM = mM') (st := []) (st1 := [.int (-1)]) (As := [.int (nI 0), .int (nI 25), .int (v), .int (nI 0)]) (b := 49) O dX7_ask_54 ul_X7_204 um_X7_puts (f_X7_putsF hW (by decide) ⟨rfl, rfl⟩) rfl (by omega) h49 rfl rfl rfl rfl (by decide) (Nat.le_of_ble_eq_true rfl) rfl (fun mhM_6 hM_6 => ?_)
        subst hM_6
        refine w_iret O dX7_ask_57 ?_
        have e0 : a_ask T x v = -1 := by unfold a_ask; rw [if_neg (fun z => c_1 z.1), if_neg (fun z => by rw [c_5] at z; exact absurd z.2 (by decide))]
        have e1 : s_ask T x v = T := by unfold s_ask; rw [if_neg (fun z => c_1 z.1), if_neg (fun z => by rw [c_5] at z; exact absurd z.2 (by decide))]
        rw [e0, e1] at hQ
        try dsimp only at hQ
        exact hQ (mM) ⟨_, _, _, _, _, _, _, _, _, _, _, _, _, _, _, _, _, _, _, _, h49, h50, h51, h52, h53, h54, h55, h56, h57, h58, h59, h60, htm, hpg, hIm, hSe, hLa, hLe, hCe⟩ sm.rf
      · skip
        have hr_q := c_5
        obtain ⟨q, qa, qb, rfl⟩ := wIn_t (by omega) c_5 (by omega)
        have cl_q : (nI q).toNatClampNeg = q := nI_clamp (by omega)
        refine w_iconst (n := 46) O dX7_ask_45 (v := (nI 1)) (by decide) rfl ?_
        refine w_goto (tgt := 50) O dX7_ask_46 (by decide) ?_
        refine w_bipush (n := 52) O dX7_ask_50 (v := (nI 25)) (by decide) rfl ?_
        refine w_iload_n (n := 53) O dX7_ask_52 rfl rfl rfl ?_
        refine w_iconst (n := 54) O dX7_ask_53 (v := (nI 0)) (by decide) rfl ?_
        refine w_cV (n := 57) (ro := some (.int (nI (T.2.2.2.2.2.1)))) (R := fun mM' => mM' 50 = IA G 150 (pgI (upN s 25 q)) ∧ sm mM mM' 50 50) (st := []) (st1 := [.int (nI (T.2.2.2.2.2.1))]) (As := [.int (nI 1), .int (nI 25), .int (nI (q)), .int (nI 0)]) (b := 49) O dX7_ask_54 ul_X7_204 um_X7_puts (f_X7_putsT (s := s) (T := T) (lo := 0) (li := 0) (to := none) (tm := tm) hW ⟨h50, hpg, _, _, _, _, _, _, _, _, _, _, _, _, _, _, _, _, h49⟩ (by decide) (i := 25) (w := q) (by omega) (by omega) (fun M' h1 h2 => ⟨congrArg (fun z => some (Value.int (nI z))) hpg.2.2.2.2.1, h1, h2⟩)) rfl (by omega) h49 rfl rfl rfl rfl (by decide) (Nat.le_of_ble_eq_true rfl) rfl (fun mhM_7 hM_7 => ?_)
        obtain ⟨hphM_7, hshM_7⟩ := hM_7
        refine w_iret O dX7_ask_57 ?_
        have e0 : a_ask T x (nI q) = (nI (T.2.2.2.2.2.1)) := by unfold a_ask; rw [if_neg (fun z => c_1 z.1), if_pos ⟨c_2, hr_q⟩]
        have e1 : s_ask T x (nI q) = (T.1, T.2.1, T.2.2.1, T.2.2.2.1, T.2.2.2.2.1, q, T.2.2.2.2.2.2) := by unfold s_ask; rw [if_neg (fun z => c_1 z.1), if_pos ⟨c_2, hr_q⟩, cl_q]
        rw [e0, e1] at hQ
        try dsimp only at hQ
        exact hQ (mhM_7) ⟨_, _, _, _, _, _, _, _, _, _, _, _, _, _, _, _, _, _, _, _, ((hshM_7 (49) (by omega)).trans h49), hphM_7, ((hshM_7 (51) (by omega)).trans h51), ((hshM_7 (52) (by omega)).trans h52), ((hshM_7 (53) (by omega)).trans h53), ((hshM_7 (54) (by omega)).trans h54), ((hshM_7 (55) (by omega)).trans h55), ((hshM_7 (56) (by omega)).trans h56), ((hshM_7 (57) (by omega)).trans h57), ((hshM_7 (58) (by omega)).trans h58), ((hshM_7 (59) (by omega)).trans h59), ((hshM_7 (60) (by omega)).trans h60), htm, (pg_le hpg), (imK hIm (fun k hk => upN_ne _ _ (by omega))), hSe, hLa, hLe, hCe⟩ (sm.rf.tr (hshM_7.mono (by omega) (by omega)))
  · skip
    refine w_aload_n (n := 5) O dX7_ask_4 rfl rfl rfl ?_
    refine w_iload_n (n := 6) O dX7_ask_5 rfl rfl rfl ?_
    refine w_i2l (n := 7) O dX7_ask_6 rfl ?_
    refine w_ldc2 (n := 10) O dX7_ask_7 uc_X7_202 rfl ?_
    refine w_topl (lN 3) (by decide) ?_
    refine w_ldc2 (n := 13) O dX7_ask_10 uc_X7_215 rfl ?_
    refine w_topl (lN 12) (by decide) ?_
    refine w_cS (n := 16) (ro := some (.int (bI (wIn (v) (nI 3) (nI 12))))) (R := fun mM' => mM = mM') (st := [.ref (gb_ad G 49)]) (st1 := [.int (bI (wIn (v) (nI 3) (nI 12))), .ref (gb_ad G 49)]) (As := [.long ((v).toInt64), .long (lN 3), .long (lN 12)]) O dX7_ask_13 ul_X7_50 um_X7_in (f_X7_in (x := (v)) (y := (nI 3)) (z := (nI 12)) hW rfl (nI_l (by decide)).symm (nI_l (by decide)).symm ⟨rfl, rfl⟩) rfl rfl rfl (by decide) (Nat.le_of_ble_eq_true rfl) rfl (fun mhM_8 hM_8 => ?_)
    subst hM_8
    refine w_bipush (n := 18) O dX7_ask_16 (v := (nI 24)) (by decide) rfl ?_
    refine w_iload_n (n := 19) O dX7_ask_18 rfl rfl rfl ?_
    refine w_bipush (n := 21) O dX7_ask_19 (v := (nI 6)) (by decide) rfl ?_
    by_cases hb : wIn (v) (nI 3) (nI 12) = true
    · skip
      have hr_q := hb
      obtain ⟨q, qa, qb, rfl⟩ := wIn_t (by decide) hb (by decide)
      have cl_q : (nI q).toNatClampNeg = q := nI_clamp (by omega)
      refine w_cV (n := 24) (ro := some (.int (nI (T.2.2.2.2.1)))) (R := fun mM' => mM' 50 = IA G 150 (pgI (upN s 24 q)) ∧ sm mM mM' 50 50) (st := []) (st1 := [.int (nI (T.2.2.2.2.1))]) (As := [.int (bI (wIn (nI (q)) (nI 3) (nI 12))), .int (nI 24), .int (nI (q)), .int (nI 6)]) (b := 49) O dX7_ask_21 ul_X7_204 um_X7_puts (f_X7_puts6 (s := s) (T := T) (lo := 0) (li := 0) (to := none) (tm := tm) hW ⟨h50, hpg, _, _, _, _, _, _, _, _, _, _, _, _, _, _, _, _, h49⟩ (fun z => by rw [bI_0.mp z] at hb; exact absurd hb (by decide)) (i := 24) (w := q) (by omega) (by omega) (fun M' h1 h2 => ⟨congrArg (fun z => some (Value.int (nI z))) hpg.2.2.2.1, h1, h2⟩)) rfl (by omega) h49 rfl rfl rfl rfl (by decide) (Nat.le_of_ble_eq_true rfl) rfl (fun mhM_9 hM_9 => ?_)
      obtain ⟨hphM_9, hshM_9⟩ := hM_9
      refine w_goto (tgt := 57) O dX7_ask_24 (by decide) ?_
      refine w_iret O dX7_ask_57 ?_
      have e0 : a_ask T x (nI q) = (nI (T.2.2.2.2.1)) := by unfold a_ask; rw [if_pos ⟨c_1, hr_q⟩]
      have e1 : s_ask T x (nI q) = (T.1, T.2.1, T.2.2.1, T.2.2.2.1, q, T.2.2.2.2.2) := by unfold s_ask; rw [if_pos ⟨c_1, hr_q⟩, cl_q]
      rw [e0, e1] at hQ
      try dsimp only at hQ
      exact hQ (mhM_9) ⟨_, _, _, _, _, _, _, _, _, _, _, _, _, _, _, _, _, _, _, _, ((hshM_9 (49) (by omega)).trans h49), hphM_9, ((hshM_9 (51) (by omega)).trans h51), ((hshM_9 (52) (by omega)).trans h52), ((hshM_9 (53) (by omega)).trans h53), ((hshM_9 (54) (by omega)).trans h54), ((hshM_9 (55) (by omega)).trans h55), ((hshM_9 (56) (by omega)).trans h56), ((hshM_9 (57) (by omega)).trans h57), ((hshM_9 (58) (by omega)).trans h58), ((hshM_9 (59) (by omega)).trans h59), ((hshM_9 (60) (by omega)).trans h60), htm, (pg_as hpg), (imK hIm (fun k hk => upN_ne _ _ (by omega))), hSe, hLa, hLe, hCe⟩ (sm.rf.tr (hshM_9.mono (by omega) (by omega)))
    · have hbf : wIn (v) (nI 3) (nI 12) = false := by cases q9 : wIn (v) (nI 3) (nI 12) with | false => rfl | true => exact absurd q9 hb
      refine w_cV (n := 24) (ro := some (.int (-1))) (R := fun mM' => mM = mM') (st := []) (st1 := [.int (-1)]) (As := [.int (bI (wIn (v) (nI 3) (nI 12))), .int (nI 24), .int (v), .int (nI 6)]) (b := 49) O dX7_ask_21 ul_X7_204 um_X7_puts (f_X7_putsF hW (bI_0.mpr hbf) ⟨rfl, rfl⟩) rfl (by omega) h49 rfl rfl rfl rfl (by decide) (Nat.le_of_ble_eq_true rfl) rfl (fun mhM_10 hM_10 => ?_)
      subst hM_10
      refine w_goto (tgt := 57) O dX7_ask_24 (by decide) ?_
      refine w_iret O dX7_ask_57 ?_
      have e0 : a_ask T x v = -1 := by unfold a_ask; rw [if_neg (fun z => by rw [hbf] at z; exact absurd z.2 (by decide)), if_neg (fun z => absurd (c_1.symm.trans z.1) (by decide))]
      have e1 : s_ask T x v = T := by unfold s_ask; rw [if_neg (fun z => by rw [hbf] at z; exact absurd z.2 (by decide)), if_neg (fun z => absurd (c_1.symm.trans z.1) (by decide))]
      rw [e0, e1] at hQ
      try dsimp only at hQ
      exact hQ (mM) ⟨_, _, _, _, _, _, _, _, _, _, _, _, _, _, _, _, _, _, _, _, h49, h50, h51, h52, h53, h54, h55, h56, h57, h58, h59, h60, htm, hpg, hIm, hSe, hLa, hLe, hCe⟩ sm.rf
set_option maxRecDepth 100000 in
set_option maxHeartbeats 4000000 in
theorem f_X7_see {G : gb_G} (hW : gW G) {Q : Option Value → gb_M → Prop} {mM : gb_M} {T : Tw} {im : Nat → Tw} {kp : Nat → Bool} {bs : Nat → Nat} {ln fa : Nat} {st sf : Nat → Nat} {sn : Nat} {sh : Sh} {sc : Nat → Nat → Int32} {tn : Nat} (hok : okS T im kp bs ln fa st sf sn sh tn) (hM : isMW G mM T im kp bs ln fa st sf sn sh sc tn) {i v : Int32}  (hQ : ∀ M', isMW G M' T im kp bs ln fa ((s_see st sf sn i v).1) ((s_see st sf sn i v).2.1) ((s_see st sf sn i v).2.2) sh sc tn → sm mM M' 49 60 → Q (some (.int (a_see sn i v))) M') : Fn G 1 yX7_see cX7_see 3 (some .int) [.ref (gb_ad G 49), .int (i), .int (v)] mM Q := by
  obtain ⟨s, se, le, rp, te, la, ce, tm, x3, x4, x5, x6, x7, x11, x12, x13, x14, x15, x16, x26, h49, h50, h51, h52, h53, h54, h55, h56, h57, h58, h59, h60, htm, hpg, hIm, hSe, hLa, hLe, hCe⟩ := hM
  have ok := hok.1
  have hn4 := ok.1
  have hst9 := hok.2.1
  have hln := hok.2.2.2.1
  have hsn6 := hok.2.2.2.2.2.2.1
  have hN := hW.2.2.1
  refine Fn.of hW.1 [(0, .ref (gb_ad G 49)), (1, .int (i)), (2, .int (v))] (by decide) (Nat.le_of_ble_eq_true rfl) rfl ?_
  intro X O
  refine w_iload_n (n := 1) O dX7_see_0 rfl rfl rfl ?_
  refine w_i2l (n := 2) O dX7_see_1 rfl ?_
  refine w_lconst (n := 3) O dX7_see_2 (v := lN 0) (by decide) rfl ?_
  refine w_ldc2 (n := 6) O dX7_see_3 uc_X7_197 rfl ?_
  refine w_topl (lN 8) (by decide) ?_
  refine w_cS (n := 9) (ro := some (.int (bI (wIn (i) (nI 0) (nI 8))))) (R := fun mM' => mM = mM') (st := []) (st1 := [.int (bI (wIn (i) (nI 0) (nI 8)))]) (As := [.long ((i).toInt64), .long (lN 0), .long (lN 8)]) O dX7_see_6 ul_X7_50 um_X7_in (f_X7_in (x := (i)) (y := (nI 0)) (z := (nI 8)) hW rfl (nI_l (by decide)).symm (nI_l (by decide)).symm ⟨rfl, rfl⟩) rfl rfl rfl (by decide) (Nat.le_of_ble_eq_true rfl) rfl (fun mhM_1 hM_1 => ?_)
  subst hM_1
  refine w_if_eqB (n := 12) (tgt := 24) O dX7_see_9 (by decide) rfl (fun c_2 => ?_) (fun c_2 => ?_)
  · skip
    refine w_iconst (n := 25) O dX7_see_24 (v := (-1)) (by decide) rfl ?_
    refine w_iret O dX7_see_25 ?_
    have e0 : a_see sn i v = -1 := by unfold a_see; rw [if_neg (by rw [show seeOk i v = false from by simp [seeOk, c_2]]; decide)]
    have e1 : s_see st sf sn i v = (st, sf, sn) := by unfold s_see; rw [if_neg (fun z => by rw [show seeOk i v = false from by simp [seeOk, c_2]] at z; exact absurd z.1 (by decide))]
    rw [e0, e1] at hQ
    try dsimp only at hQ
    exact hQ (mM) ⟨_, _, _, _, _, _, _, _, _, _, _, _, _, _, _, _, _, _, _, _, h49, h50, h51, h52, h53, h54, h55, h56, h57, h58, h59, h60, htm, hpg, hIm, hSe, hLa, hLe, hCe⟩ sm.rf
  · skip
    have hr_j := c_2
    obtain ⟨j, ja, jb, rfl⟩ := wIn_t (by omega) c_2 (by omega)
    have cl_j : (nI j).toNatClampNeg = j := nI_clamp (by omega)
    refine w_iload_n (n := 13) O dX7_see_12 rfl rfl rfl ?_
    refine w_i2l (n := 14) O dX7_see_13 rfl ?_
    refine w_lconst (n := 15) O dX7_see_14 (v := lN 0) (by decide) rfl ?_
    refine w_ldc2 (n := 18) O dX7_see_15 uc_X7_208 rfl ?_
    refine w_topl (lN 9) (by decide) ?_
    refine w_cS (n := 21) (ro := some (.int (bI (wIn (v) (nI 0) (nI 9))))) (R := fun mM' => mM = mM') (st := []) (st1 := [.int (bI (wIn (v) (nI 0) (nI 9)))]) (As := [.long ((v).toInt64), .long (lN 0), .long (lN 9)]) O dX7_see_18 ul_X7_50 um_X7_in (f_X7_in (x := (v)) (y := (nI 0)) (z := (nI 9)) hW rfl (nI_l (by decide)).symm (nI_l (by decide)).symm ⟨rfl, rfl⟩) rfl rfl rfl (by decide) (Nat.le_of_ble_eq_true rfl) rfl (fun mhM_3 hM_3 => ?_)
    subst hM_3
    refine w_if_neB (n := 24) (tgt := 26) O dX7_see_21 (by decide) rfl (fun c_4 => ?_) (fun c_4 => ?_)
    · skip
      have hr_q := c_4
      obtain ⟨q, qa, qb, rfl⟩ := wIn_t (by omega) c_4 (by omega)
      have cl_q : (nI q).toNatClampNeg = q := nI_clamp (by omega)
      refine w_aload_n (n := 27) O dX7_see_26 rfl rfl rfl ?_
      refine w_getf (n := 30) O 24 dX7_see_27 (by omega) h49 rfl (by decide) uX7 uf_X7_139 rfl rfl ?_
      refine w_bipush (n := 32) O dX7_see_30 (v := (nI 6)) (by decide) rfl ?_
      refine w_icmp_neN (n := 35) (tgt := 38) O dX7_see_32 (by omega) (by omega) (by decide) rfl (fun c_5 => ?_) (fun c_5 => ?_)
      · skip
        refine w_aload_n (n := 39) O dX7_see_38 rfl rfl rfl ?_
        refine w_getf (n := 42) O 23 dX7_see_39 (by omega) h49 rfl (by decide) uX7 uf_X7_29 rfl rfl ?_
        refine w_iconst (n := 43) O dX7_see_42 (v := (nI 2)) (by decide) rfl ?_
        refine w_aload_n (n := 44) O dX7_see_43 rfl rfl rfl ?_
        refine w_getf (n := 47) O 24 dX7_see_44 (by omega) h49 rfl (by decide) uX7 uf_X7_139 rfl rfl ?_
        refine w_imulN (n := 48) O dX7_see_47 rfl ?_
        refine w_iload_n (n := 49) O dX7_see_48 rfl rfl rfl ?_
        refine w_iastN (n := 50) O dX7_see_49 hW.2.1 (by omega) h55 (by omega) (by decide) rfl ?_
        refine w_aload_n (n := 51) O dX7_see_50 rfl rfl rfl ?_
        refine w_getf (n := 54) O 23 dX7_see_51 (by omega) ((va_up_ne _ _ (by decide)).trans h49) rfl (by decide) uX7 uf_X7_29 rfl rfl ?_
        refine w_iconst (n := 55) O dX7_see_54 (v := (nI 2)) (by decide) rfl ?_
        refine w_aload_n (n := 56) O dX7_see_55 rfl rfl rfl ?_
        refine w_getf (n := 59) O 24 dX7_see_56 (by omega) ((va_up_ne _ _ (by decide)).trans h49) rfl (by decide) uX7 uf_X7_139 rfl rfl ?_
        refine w_imulN (n := 60) O dX7_see_59 rfl ?_
        refine w_iconst (n := 61) O dX7_see_60 (v := (nI 1)) (by decide) rfl ?_
        refine w_iaddN (n := 62) O dX7_see_61 rfl ?_
        refine w_iload_n (n := 63) O dX7_see_62 rfl rfl rfl ?_
        refine w_iastN (n := 64) O dX7_see_63 hW.2.1 (by omega) (va_up_self _ _ _) (by omega) (by decide) rfl ?_
        refine w_aload_n (n := 65) O dX7_see_64 rfl rfl rfl ?_
        refine w_dup (n := 66) O dX7_see_65 rfl rfl ?_
        refine w_getf (n := 69) O 24 dX7_see_66 (by omega) ((va_up_ne _ _ (by decide)).trans ((va_up_ne _ _ (by decide)).trans h49)) rfl (by decide) uX7 uf_X7_139 rfl rfl ?_
        refine w_iconst (n := 70) O dX7_see_69 (v := (nI 1)) (by decide) rfl ?_
        refine w_iaddN (n := 71) O dX7_see_70 rfl ?_
        refine w_putf (n := 74) (fs' := [.ref (gb_ad G 50), .int (nI (T.2.2.2.1)), .ref (gb_ad G 51), .int (x3), .int (x4), .int (x5), .int (x6), .int (x7), .ref (gb_ad G 52), .int (nI (ln)), .int (nI (fa)), .int (x11), .int (x12), .int (x13), .int (x14), .int (x15), .int (x16), .ref (gb_ad G 53), .ref (gb_ad G 54), .int (nI 0), .int (nI 0), .int (oI none), .int (nI (tm)), .ref (gb_ad G 55), .int (nI ((sn + 1))), .ref (gb_ad G 56), .int (x26), .ref (gb_ad G 57), .ref (gb_ad G 58), .ref (gb_ad G 59), .ref (gb_ad G 60), .int (nI (tn))]) O 24 dX7_see_71 (by omega) ((va_up_ne _ _ (by decide)).trans ((va_up_ne _ _ (by decide)).trans h49)) rfl (by decide) uX7 uf_X7_139 tyX7 tyX7_ok nmX7 rfl rfl rfl (Nat.le_of_ble_eq_true rfl) rfl rfl ?_
        refine w_aload_n (n := 75) O dX7_see_74 rfl rfl rfl ?_
        refine w_getf (n := 78) O 24 dX7_see_75 (by omega) (va_up_self _ _ _) rfl (by decide) uX7 uf_X7_139 rfl rfl ?_
        refine w_iret O dX7_see_78 ?_
        have e0 : a_see sn (nI j) (nI q) = (nI ((sn + 1))) := by unfold a_see; rw [if_pos (by unfold seeOk; rw [hr_j, hr_q]; rfl), if_neg c_5]
        have e1 : s_see st sf sn (nI j) (nI q) = (upN st sn j, upN sf sn q, sn + 1) := by unfold s_see; rw [if_pos ⟨by unfold seeOk; rw [hr_j, hr_q]; rfl, c_5⟩, cl_j, cl_q]
        rw [e0, e1] at hQ
        try dsimp only at hQ
        exact hQ ((va_up (va_up (va_up mM (55) (IN G 12 (upN (se) ((2 * sn)) (j)))) (55) (IN G 12 (upN (upN (se) ((2 * sn)) (j)) (((2 * sn) + 1)) (q)))) (49) (.inr (7, [.ref (gb_ad G 50), .int (nI (T.2.2.2.1)), .ref (gb_ad G 51), .int (x3), .int (x4), .int (x5), .int (x6), .int (x7), .ref (gb_ad G 52), .int (nI (ln)), .int (nI (fa)), .int (x11), .int (x12), .int (x13), .int (x14), .int (x15), .int (x16), .ref (gb_ad G 53), .ref (gb_ad G 54), .int (nI 0), .int (nI 0), .int (oI none), .int (nI (tm)), .ref (gb_ad G 55), .int (nI ((sn + 1))), .ref (gb_ad G 56), .int (x26), .ref (gb_ad G 57), .ref (gb_ad G 58), .ref (gb_ad G 59), .ref (gb_ad G 60), .int (nI (tn))])))) ⟨_, _, _, _, _, _, _, _, _, _, _, _, _, _, _, _, _, _, _, _, (va_up_self _ _ _), ((va_up_ne _ _ (by decide)).trans ((va_up_ne _ _ (by decide)).trans ((va_up_ne _ _ (by decide)).trans h50))), ((va_up_ne _ _ (by decide)).trans ((va_up_ne _ _ (by decide)).trans ((va_up_ne _ _ (by decide)).trans h51))), ((va_up_ne _ _ (by decide)).trans ((va_up_ne _ _ (by decide)).trans ((va_up_ne _ _ (by decide)).trans h52))), ((va_up_ne _ _ (by decide)).trans ((va_up_ne _ _ (by decide)).trans ((va_up_ne _ _ (by decide)).trans h53))), ((va_up_ne _ _ (by decide)).trans ((va_up_ne _ _ (by decide)).trans ((va_up_ne _ _ (by decide)).trans h54))), ((va_up_ne _ _ (by decide)).trans (va_up_self _ _ _)), ((va_up_ne _ _ (by decide)).trans ((va_up_ne _ _ (by decide)).trans ((va_up_ne _ _ (by decide)).trans h56))), ((va_up_ne _ _ (by decide)).trans ((va_up_ne _ _ (by decide)).trans ((va_up_ne _ _ (by decide)).trans h57))), ((va_up_ne _ _ (by decide)).trans ((va_up_ne _ _ (by decide)).trans ((va_up_ne _ _ (by decide)).trans h58))), ((va_up_ne _ _ (by decide)).trans ((va_up_ne _ _ (by decide)).trans ((va_up_ne _ _ (by decide)).trans h59))), ((va_up_ne _ _ (by decide)).trans ((va_up_ne _ _ (by decide)).trans ((va_up_ne _ _ (by decide)).trans h60))), htm, hpg, hIm, (fun k hk => by by_cases e : k = sn; (subst e; exact ⟨by rw [upN_ne _ _ (by omega), upN_self, upN_self], by rw [upN_self, upN_self]⟩); (have := hSe k (by omega); exact ⟨by rw [upN_ne _ _ (by omega), upN_ne _ _ (by omega), upN_ne _ _ e]; exact this.1, by rw [upN_ne _ _ (by omega), upN_ne _ _ (by omega), upN_ne _ _ e]; exact this.2⟩)), hLa, hLe, hCe⟩ (((sm.rf.up (by omega) (by omega)).up (by omega) (by omega)).up (by omega) (by omega))
      · skip
        refine w_bipush (n := 37) O dX7_see_35 (v := (-3)) (by decide) rfl ?_
        refine w_iret O dX7_see_37 ?_
        have e0 : a_see sn (nI j) (nI q) = -3 := by unfold a_see; rw [if_pos (by unfold seeOk; rw [hr_j, hr_q]; rfl), if_pos c_5]
        have e1 : s_see st sf sn (nI j) (nI q) = (st, sf, sn) := by unfold s_see; rw [if_neg (fun z => z.2 c_5)]
        rw [e0, e1] at hQ
        try dsimp only at hQ
        exact hQ (mM) ⟨_, _, _, _, _, _, _, _, _, _, _, _, _, _, _, _, _, _, _, _, h49, h50, h51, h52, h53, h54, h55, h56, h57, h58, h59, h60, htm, hpg, hIm, hSe, hLa, hLe, hCe⟩ sm.rf
    · skip
      refine w_iconst (n := 25) O dX7_see_24 (v := (-1)) (by decide) rfl ?_
      refine w_iret O dX7_see_25 ?_
      have e0 : a_see sn (nI j) v = -1 := by unfold a_see; rw [if_neg (by rw [show seeOk (nI j) v = false from by simp [seeOk, c_4]]; decide)]
      have e1 : s_see st sf sn (nI j) v = (st, sf, sn) := by unfold s_see; rw [if_neg (fun z => by rw [show seeOk (nI j) v = false from by simp [seeOk, c_4]] at z; exact absurd z.1 (by decide))]
      rw [e0, e1] at hQ
      try dsimp only at hQ
      exact hQ (mM) ⟨_, _, _, _, _, _, _, _, _, _, _, _, _, _, _, _, _, _, _, _, h49, h50, h51, h52, h53, h54, h55, h56, h57, h58, h59, h60, htm, hpg, hIm, hSe, hLa, hLe, hCe⟩ sm.rf
set_option maxRecDepth 100000 in
set_option maxHeartbeats 4000000 in
theorem f_X7_forget {G : gb_G} (hW : gW G) {Q : Option Value → gb_M → Prop} {mM : gb_M} {T : Tw} {im : Nat → Tw} {kp : Nat → Bool} {bs : Nat → Nat} {ln fa : Nat} {st sf : Nat → Nat} {sn : Nat} {sh : Sh} {sc : Nat → Nat → Int32} {tn : Nat} (hok : okS T im kp bs ln fa st sf sn sh tn) (hM : isMW G mM T im kp bs ln fa st sf sn sh sc tn) {c : Int32}  (hQ : ∀ M', isMW G M' T im kp bs ln fa st sf (s_end sn c) sh sc tn → sm mM M' 49 60 → Q (some (.int (a_end sn c))) M') : Fn G 1 yX7_forget cX7_forget 3 (some .int) [.ref (gb_ad G 49), .int (c)] mM Q := by
  obtain ⟨s, se, le, rp, te, la, ce, tm, x3, x4, x5, x6, x7, x11, x12, x13, x14, x15, x16, x26, h49, h50, h51, h52, h53, h54, h55, h56, h57, h58, h59, h60, htm, hpg, hIm, hSe, hLa, hLe, hCe⟩ := hM
  have ok := hok.1
  have hn4 := ok.1
  have hst9 := hok.2.1
  have hln := hok.2.2.2.1
  have hsn6 := hok.2.2.2.2.2.2.1
  have hN := hW.2.2.1
  refine Fn.of hW.1 [(0, .ref (gb_ad G 49)), (1, .int (c))] (by decide) (Nat.le_of_ble_eq_true rfl) rfl ?_
  intro X O
  refine w_iload_n (n := 1) O dX7_forget_0 rfl rfl rfl ?_
  refine w_i2l (n := 2) O dX7_forget_1 rfl ?_
  refine w_lconst (n := 3) O dX7_forget_2 (v := lN 0) (by decide) rfl ?_
  refine w_aload_n (n := 4) O dX7_forget_3 rfl rfl rfl ?_
  refine w_getf (n := 7) O 24 dX7_forget_4 (by omega) h49 rfl (by decide) uX7 uf_X7_139 rfl rfl ?_
  refine w_i2l (n := 8) O dX7_forget_7 rfl ?_
  refine w_cS (n := 11) (ro := some (.int (bI (wIn (c) (nI 0) (nI (sn)))))) (R := fun mM' => mM = mM') (st := []) (st1 := [.int (bI (wIn (c) (nI 0) (nI (sn))))]) (As := [.long ((c).toInt64), .long (lN 0), .long ((nI (sn)).toInt64)]) O dX7_forget_8 ul_X7_50 um_X7_in (f_X7_in (x := (c)) (y := (nI 0)) (z := (nI (sn))) hW rfl (nI_l (by decide)).symm rfl ⟨rfl, rfl⟩) rfl rfl rfl (by decide) (Nat.le_of_ble_eq_true rfl) rfl (fun mhM_1 hM_1 => ?_)
  subst hM_1
  refine w_if_neB (n := 14) (tgt := 16) O dX7_forget_11 (by decide) rfl (fun c_2 => ?_) (fun c_2 => ?_)
  · skip
    have hr_j := c_2
    obtain ⟨j, ja, jb, rfl⟩ := wIn_t (by omega) c_2 (by omega)
    have cl_j : (nI j).toNatClampNeg = j := nI_clamp (by omega)
    refine w_aload_n (n := 17) O dX7_forget_16 rfl rfl rfl ?_
    refine w_getf (n := 20) O 24 dX7_forget_17 (by omega) h49 rfl (by decide) uX7 uf_X7_139 rfl rfl ?_
    refine w_istore_n (n := 21) (lv' := [(2, .int (nI (sn))), (0, .ref (gb_ad G 49)), (1, .int (nI (j)))]) O dX7_forget_20 rfl (by decide) rfl rfl ?_
    refine w_aload_n (n := 22) O dX7_forget_21 rfl rfl rfl ?_
    refine w_iload_n (n := 23) O dX7_forget_22 rfl rfl rfl ?_
    refine w_putf (n := 26) (fs' := [.ref (gb_ad G 50), .int (nI (T.2.2.2.1)), .ref (gb_ad G 51), .int (x3), .int (x4), .int (x5), .int (x6), .int (x7), .ref (gb_ad G 52), .int (nI (ln)), .int (nI (fa)), .int (x11), .int (x12), .int (x13), .int (x14), .int (x15), .int (x16), .ref (gb_ad G 53), .ref (gb_ad G 54), .int (nI 0), .int (nI 0), .int (oI none), .int (nI (tm)), .ref (gb_ad G 55), .int (nI (j)), .ref (gb_ad G 56), .int (x26), .ref (gb_ad G 57), .ref (gb_ad G 58), .ref (gb_ad G 59), .ref (gb_ad G 60), .int (nI (tn))]) O 24 dX7_forget_23 (by omega) h49 rfl (by decide) uX7 uf_X7_139 tyX7 tyX7_ok nmX7 rfl rfl rfl (Nat.le_of_ble_eq_true rfl) rfl rfl ?_
    refine w_iload_n (n := 27) O dX7_forget_26 rfl rfl rfl ?_
    refine w_iret O dX7_forget_27 ?_
    have e0 : a_end sn (nI j) = nI sn := by simp [a_end, hr_j]
    have e1 : s_end sn (nI j) = j := by simp [s_end, hr_j, cl_j]
    rw [e0, e1] at hQ
    try dsimp only at hQ
    exact hQ ((va_up mM (49) (.inr (7, [.ref (gb_ad G 50), .int (nI (T.2.2.2.1)), .ref (gb_ad G 51), .int (x3), .int (x4), .int (x5), .int (x6), .int (x7), .ref (gb_ad G 52), .int (nI (ln)), .int (nI (fa)), .int (x11), .int (x12), .int (x13), .int (x14), .int (x15), .int (x16), .ref (gb_ad G 53), .ref (gb_ad G 54), .int (nI 0), .int (nI 0), .int (oI none), .int (nI (tm)), .ref (gb_ad G 55), .int (nI (j)), .ref (gb_ad G 56), .int (x26), .ref (gb_ad G 57), .ref (gb_ad G 58), .ref (gb_ad G 59), .ref (gb_ad G 60), .int (nI (tn))])))) ⟨_, _, _, _, _, _, _, _, _, _, _, _, _, _, _, _, _, _, _, _, (va_up_self _ _ _), ((va_up_ne _ _ (by decide)).trans h50), ((va_up_ne _ _ (by decide)).trans h51), ((va_up_ne _ _ (by decide)).trans h52), ((va_up_ne _ _ (by decide)).trans h53), ((va_up_ne _ _ (by decide)).trans h54), ((va_up_ne _ _ (by decide)).trans h55), ((va_up_ne _ _ (by decide)).trans h56), ((va_up_ne _ _ (by decide)).trans h57), ((va_up_ne _ _ (by decide)).trans h58), ((va_up_ne _ _ (by decide)).trans h59), ((va_up_ne _ _ (by decide)).trans h60), htm, hpg, hIm, (fun k hk => hSe k (by omega)), hLa, hLe, hCe⟩ (sm.rf.up (by omega) (by omega))
  · skip
    refine w_iconst (n := 15) O dX7_forget_14 (v := (-1)) (by decide) rfl ?_
    refine w_iret O dX7_forget_15 ?_
    have e0 : a_end sn c = -1 := by simp [a_end, c_2]
    have e1 : s_end sn c = sn := by simp [s_end, c_2]
    rw [e0, e1] at hQ
    try dsimp only at hQ
    exact hQ (mM) ⟨_, _, _, _, _, _, _, _, _, _, _, _, _, _, _, _, _, _, _, _, h49, h50, h51, h52, h53, h54, h55, h56, h57, h58, h59, h60, htm, hpg, hIm, hSe, hLa, hLe, hCe⟩ sm.rf
theorem has_pow : ∀ j, j < 4 → ∀ g, g < 4 → hasB (2 ^ j) g = decide (g = j) := by decide +kernel
set_option maxRecDepth 100000 in
set_option maxHeartbeats 4000000 in
theorem f_X7_without {G : gb_G} (hW : gW G) {Q : Option Value → gb_M → Prop} {mM : gb_M} {T : Tw} {im : Nat → Tw} {kp : Nat → Bool} {bs : Nat → Nat} {ln fa : Nat} {st sf : Nat → Nat} {sn : Nat} {sh : Sh} {sc : Nat → Nat → Int32} {tn : Nat} (hok : okS T im kp bs ln fa st sf sn sh tn) (hM : isMW G mM T im kp bs ln fa st sf sn sh sc tn) {g : Int32}  (hQ : ∀ M', isMW G M' T im kp bs ln fa st sf sn sh sc tn → sm mM M' 49 60 → Q (some (.int (a_without T g))) M') : Fn G 7 yX7_without cX7_without 3 (some .int) [.ref (gb_ad G 49), .int (g)] mM Q := by
  obtain ⟨s, se, le, rp, te, la, ce, tm, x3, x4, x5, x6, x7, x11, x12, x13, x14, x15, x16, x26, h49, h50, h51, h52, h53, h54, h55, h56, h57, h58, h59, h60, htm, hpg, hIm, hSe, hLa, hLe, hCe⟩ := hM
  have ok := hok.1
  have hn4 := ok.1
  have hst9 := hok.2.1
  have hln := hok.2.2.2.1
  have hsn6 := hok.2.2.2.2.2.2.1
  have hN := hW.2.2.1
  refine Fn.of hW.1 [(0, .ref (gb_ad G 49)), (1, .int (g))] (by decide) (Nat.le_of_ble_eq_true rfl) rfl ?_
  intro X O
  refine w_aload_n (n := 1) O dX7_without_0 rfl rfl rfl ?_
  refine w_iload_n (n := 2) O dX7_without_1 rfl rfl rfl ?_
  refine w_cV (n := 5) (ro := some (.int (bI (isGv (g) T.2.2.2.1)))) (R := fun mM' => mM = mM') (st := []) (st1 := [.int (bI (isGv (g) T.2.2.2.1))]) (As := [.int (g)]) (b := 49) O dX7_without_2 ul_X7_165 um_X7_isGiver (f_X7_isGiver (s := s) (T := T) (lo := 0) (li := 0) (to := none) (tm := tm) hW ⟨h50, hpg, _, _, _, _, _, _, _, _, _, _, _, _, _, _, _, _, h49⟩ ok  ⟨rfl, rfl⟩) rfl (by omega) h49 rfl rfl rfl rfl (by decide) (Nat.le_of_ble_eq_true rfl) rfl (fun mhM_1 hM_1 => ?_)
  subst hM_1
  refine w_if_neB (n := 8) (tgt := 10) O dX7_without_5 (by decide) rfl (fun c_2 => ?_) (fun c_2 => ?_)
  · skip
    have hr_j := c_2
    obtain ⟨j, ja, rfl⟩ := isGv_t (by omega) c_2
    have cl_j : (nI j).toNatClampNeg = j := nI_clamp (by omega)
    have hp16 : 2 ^ j < 16 := by have := Nat.pow_lt_pow_right (show 1 < 2 by decide) (show j < 4 by omega); omega
    have hcg : ∀ g2, g2 < T.2.2.2.1 → upN (tGives T) j 0 g2 = gGv T (2 ^ j) 0 none tm g2 := fun g2 h2 => by unfold gGv upN; rw [has_pow j (by omega) g2 (by omega), show hasB 0 g2 = false by simp [hasB]]; by_cases e : g2 = j; (simp [e]); (simp [e])
    refine w_aload_n (n := 11) O dX7_without_10 rfl rfl rfl ?_
    refine w_iconst (n := 12) O dX7_without_11 (v := (nI 1)) (by decide) rfl ?_
    refine w_iload_n (n := 13) O dX7_without_12 rfl rfl rfl ?_
    refine w_ishl (n := 14) O dX7_without_13 rfl ?_
    refine w_top (nI (2 ^ j)) (shl1 (by omega)) ?_
    refine w_putf (n := 17) (fs' := [.ref (gb_ad G 50), .int (nI (T.2.2.2.1)), .ref (gb_ad G 51), .int (x3), .int (x4), .int (x5), .int (x6), .int (x7), .ref (gb_ad G 52), .int (nI (ln)), .int (nI (fa)), .int (x11), .int (x12), .int (x13), .int (x14), .int (x15), .int (x16), .ref (gb_ad G 53), .ref (gb_ad G 54), .int (nI ((2 ^ j))), .int (nI 0), .int (oI none), .int (nI (tm)), .ref (gb_ad G 55), .int (nI (sn)), .ref (gb_ad G 56), .int (x26), .ref (gb_ad G 57), .ref (gb_ad G 58), .ref (gb_ad G 59), .ref (gb_ad G 60), .int (nI (tn))]) O 19 dX7_without_14 (by omega) h49 rfl (by decide) uX7 uf_X7_162 tyX7 tyX7_ok nmX7 rfl rfl rfl (Nat.le_of_ble_eq_true rfl) rfl rfl ?_
    refine w_aload_n (n := 18) O dX7_without_17 rfl rfl rfl ?_
    refine w_cV (n := 21) (ro := some (.int (oI (pNote (mAm T (gGv T (2 ^ j) 0 none tm)) (mWt T (gGv T (2 ^ j) 0 none tm)))))) (R := fun mM' => (va_up mM (49) (.inr (7, [.ref (gb_ad G 50), .int (nI (T.2.2.2.1)), .ref (gb_ad G 51), .int (x3), .int (x4), .int (x5), .int (x6), .int (x7), .ref (gb_ad G 52), .int (nI (ln)), .int (nI (fa)), .int (x11), .int (x12), .int (x13), .int (x14), .int (x15), .int (x16), .ref (gb_ad G 53), .ref (gb_ad G 54), .int (nI ((2 ^ j))), .int (nI 0), .int (oI none), .int (nI (tm)), .ref (gb_ad G 55), .int (nI (sn)), .ref (gb_ad G 56), .int (x26), .ref (gb_ad G 57), .ref (gb_ad G 58), .ref (gb_ad G 59), .ref (gb_ad G 60), .int (nI (tn))]))) = mM') (st := []) (st1 := [.int (oI (pNote (mAm T (gGv T (2 ^ j) 0 none tm)) (mWt T (gGv T (2 ^ j) 0 none tm))))]) (As := []) (b := 49) O dX7_without_18 ul_X7_181 um_X7_note (f_X7_note (s := s) (T := T) (lo := (2 ^ j)) (li := 0) (to := none) (tm := tm) hW ⟨((va_up_ne _ _ (by decide)).trans h50), hpg, _, _, _, _, _, _, _, _, _, _, _, _, _, _, _, _, (va_up_self _ _ _)⟩ ok (fun k hk => by cases hk) htm hp16 (by decide)  ⟨rfl, rfl⟩) rfl (by omega) (va_up_self _ _ _) rfl rfl rfl rfl (by decide) (Nat.le_of_ble_eq_true rfl) rfl (fun mhM_3 hM_3 => ?_)
    subst hM_3
    refine w_istore_n (n := 22) (lv' := [(2, .int (oI (pNote (mAm T (gGv T (2 ^ j) 0 none tm)) (mWt T (gGv T (2 ^ j) 0 none tm))))), (0, .ref (gb_ad G 49)), (1, .int (nI (j)))]) O dX7_without_21 rfl (by decide) rfl rfl ?_
    refine w_aload_n (n := 23) O dX7_without_22 rfl rfl rfl ?_
    refine w_iconst (n := 24) O dX7_without_23 (v := (nI 0)) (by decide) rfl ?_
    refine w_putf (n := 27) (fs' := [.ref (gb_ad G 50), .int (nI (T.2.2.2.1)), .ref (gb_ad G 51), .int (x3), .int (x4), .int (x5), .int (x6), .int (x7), .ref (gb_ad G 52), .int (nI (ln)), .int (nI (fa)), .int (x11), .int (x12), .int (x13), .int (x14), .int (x15), .int (x16), .ref (gb_ad G 53), .ref (gb_ad G 54), .int (nI 0), .int (nI 0), .int (oI none), .int (nI (tm)), .ref (gb_ad G 55), .int (nI (sn)), .ref (gb_ad G 56), .int (x26), .ref (gb_ad G 57), .ref (gb_ad G 58), .ref (gb_ad G 59), .ref (gb_ad G 60), .int (nI (tn))]) O 19 dX7_without_24 (by omega) (va_up_self _ _ _) rfl (by decide) uX7 uf_X7_162 tyX7 tyX7_ok nmX7 rfl rfl rfl (Nat.le_of_ble_eq_true rfl) rfl rfl ?_
    refine w_iload_n (n := 28) O dX7_without_27 rfl rfl rfl ?_
    refine w_iret O dX7_without_28 ?_
    have e0 : a_without T (nI j) = (oI (pNote (mAm T (gGv T (2 ^ j) 0 none tm)) (mWt T (gGv T (2 ^ j) 0 none tm)))) := by unfold a_without; rw [if_pos hr_j, cl_j, mAm_cong hcg, mWt_cong hcg]
    rw [e0] at hQ
    try dsimp only at hQ
    exact hQ ((va_up (va_up mM (49) (.inr (7, [.ref (gb_ad G 50), .int (nI (T.2.2.2.1)), .ref (gb_ad G 51), .int (x3), .int (x4), .int (x5), .int (x6), .int (x7), .ref (gb_ad G 52), .int (nI (ln)), .int (nI (fa)), .int (x11), .int (x12), .int (x13), .int (x14), .int (x15), .int (x16), .ref (gb_ad G 53), .ref (gb_ad G 54), .int (nI ((2 ^ j))), .int (nI 0), .int (oI none), .int (nI (tm)), .ref (gb_ad G 55), .int (nI (sn)), .ref (gb_ad G 56), .int (x26), .ref (gb_ad G 57), .ref (gb_ad G 58), .ref (gb_ad G 59), .ref (gb_ad G 60), .int (nI (tn))]))) (49) (.inr (7, [.ref (gb_ad G 50), .int (nI (T.2.2.2.1)), .ref (gb_ad G 51), .int (x3), .int (x4), .int (x5), .int (x6), .int (x7), .ref (gb_ad G 52), .int (nI (ln)), .int (nI (fa)), .int (x11), .int (x12), .int (x13), .int (x14), .int (x15), .int (x16), .ref (gb_ad G 53), .ref (gb_ad G 54), .int (nI 0), .int (nI 0), .int (oI none), .int (nI (tm)), .ref (gb_ad G 55), .int (nI (sn)), .ref (gb_ad G 56), .int (x26), .ref (gb_ad G 57), .ref (gb_ad G 58), .ref (gb_ad G 59), .ref (gb_ad G 60), .int (nI (tn))])))) ⟨_, _, _, _, _, _, _, _, _, _, _, _, _, _, _, _, _, _, _, _, (va_up_self _ _ _), ((va_up_ne _ _ (by decide)).trans ((va_up_ne _ _ (by decide)).trans h50)), ((va_up_ne _ _ (by decide)).trans ((va_up_ne _ _ (by decide)).trans h51)), ((va_up_ne _ _ (by decide)).trans ((va_up_ne _ _ (by decide)).trans h52)), ((va_up_ne _ _ (by decide)).trans ((va_up_ne _ _ (by decide)).trans h53)), ((va_up_ne _ _ (by decide)).trans ((va_up_ne _ _ (by decide)).trans h54)), ((va_up_ne _ _ (by decide)).trans ((va_up_ne _ _ (by decide)).trans h55)), ((va_up_ne _ _ (by decide)).trans ((va_up_ne _ _ (by decide)).trans h56)), ((va_up_ne _ _ (by decide)).trans ((va_up_ne _ _ (by decide)).trans h57)), ((va_up_ne _ _ (by decide)).trans ((va_up_ne _ _ (by decide)).trans h58)), ((va_up_ne _ _ (by decide)).trans ((va_up_ne _ _ (by decide)).trans h59)), ((va_up_ne _ _ (by decide)).trans ((va_up_ne _ _ (by decide)).trans h60)), htm, hpg, hIm, hSe, hLa, hLe, hCe⟩ ((sm.rf.up (by omega) (by omega)).up (by omega) (by omega))
  · skip
    refine w_iconst (n := 9) O dX7_without_8 (v := (-1)) (by decide) rfl ?_
    refine w_iret O dX7_without_9 ?_
    have e0 : a_without T g = -1 := by unfold a_without; rw [if_neg (by rw [c_2]; decide)]
    rw [e0] at hQ
    try dsimp only at hQ
    exact hQ (mM) ⟨_, _, _, _, _, _, _, _, _, _, _, _, _, _, _, _, _, _, _, _, h49, h50, h51, h52, h53, h54, h55, h56, h57, h58, h59, h60, htm, hpg, hIm, hSe, hLa, hLe, hCe⟩ sm.rf
set_option maxRecDepth 100000 in
set_option maxHeartbeats 4000000 in
theorem f_X7_keep {G : gb_G} (hW : gW G) {Q : Option Value → gb_M → Prop} {mM : gb_M} {T : Tw} {im : Nat → Tw} {kp : Nat → Bool} {bs : Nat → Nat} {ln fa : Nat} {st sf : Nat → Nat} {sn : Nat} {sh : Sh} {sc : Nat → Nat → Int32} {tn : Nat} (hok : okS T im kp bs ln fa st sf sn sh tn) (hM : isMW G mM T im kp bs ln fa st sf sn sh sc tn) {x : Int32}  (hQ : ∀ M', isMW G M' T ((s_keep T im kp x).1) ((s_keep T im kp x).2) bs ln fa st sf sn sh sc tn → sm mM M' 49 60 → Q (some (.int (a_keep kp x))) M') : Fn G 1 yX7_keep cX7_keep 3 (some .int) [.ref (gb_ad G 49), .int (x)] mM Q := by
  obtain ⟨s, se, le, rp, te, la, ce, tm, x3, x4, x5, x6, x7, x11, x12, x13, x14, x15, x16, x26, h49, h50, h51, h52, h53, h54, h55, h56, h57, h58, h59, h60, htm, hpg, hIm, hSe, hLa, hLe, hCe⟩ := hM
  have ok := hok.1
  have hn4 := ok.1
  have hst9 := hok.2.1
  have hln := hok.2.2.2.1
  have hsn6 := hok.2.2.2.2.2.2.1
  have hN := hW.2.2.1
  refine Fn.of hW.1 [(0, .ref (gb_ad G 49)), (1, .int (x))] (by decide) (Nat.le_of_ble_eq_true rfl) rfl ?_
  intro X O
  refine w_iload_n (n := 1) O dX7_keep_0 rfl rfl rfl ?_
  refine w_i2l (n := 2) O dX7_keep_1 rfl ?_
  refine w_lconst (n := 3) O dX7_keep_2 (v := lN 0) (by decide) rfl ?_
  refine w_lconst (n := 4) O dX7_keep_3 (v := lN 1) (by decide) rfl ?_
  refine w_cS (n := 7) (ro := some (.int (bI (wIn (x) (nI 0) (nI 1))))) (R := fun mM' => mM = mM') (st := []) (st1 := [.int (bI (wIn (x) (nI 0) (nI 1)))]) (As := [.long ((x).toInt64), .long (lN 0), .long (lN 1)]) O dX7_keep_4 ul_X7_50 um_X7_in (f_X7_in (x := (x)) (y := (nI 0)) (z := (nI 1)) hW rfl (nI_l (by decide)).symm (nI_l (by decide)).symm ⟨rfl, rfl⟩) rfl rfl rfl (by decide) (Nat.le_of_ble_eq_true rfl) rfl (fun mhM_1 hM_1 => ?_)
  subst hM_1
  refine w_if_neB (n := 10) (tgt := 12) O dX7_keep_7 (by decide) rfl (fun c_2 => ?_) (fun c_2 => ?_)
  · skip
    have hr_j := c_2
    obtain ⟨j, ja, jb, rfl⟩ := wIn_t (by omega) c_2 (by omega)
    have cl_j : (nI j).toNatClampNeg = j := nI_clamp (by omega)
    refine w_aload_n (n := 13) O dX7_keep_12 rfl rfl rfl ?_
    refine w_iconst (n := 14) O dX7_keep_13 (v := (nI 0)) (by decide) rfl ?_
    refine w_bipush (n := 16) O dX7_keep_14 (v := (nI 30)) (by decide) rfl ?_
    refine w_iload_n (n := 17) O dX7_keep_16 rfl rfl rfl ?_
    refine w_iconst (n := 18) O dX7_keep_17 (v := (nI 1)) (by decide) rfl ?_
    refine w_iaddN (n := 19) O dX7_keep_18 rfl ?_
    refine w_imulN (n := 20) O dX7_keep_19 rfl ?_
    refine w_cV (n := 23) (ro := none) (R := fun mM' => mM' 50 = IA G 150 (pgI (cpS s 0 (30 * (j + 1)))) ∧ sm mM mM' 50 50) (st := []) (st1 := []) (As := [.int (nI 0), .int (nI ((30 * (j + 1))))]) (b := 49) O dX7_keep_20 ul_X7_224 um_X7_copies (f_X7_copies (s := s) (T := T) (lo := 0) (li := 0) (to := none) (tm := tm) hW ⟨h50, hpg, _, _, _, _, _, _, _, _, _, _, _, _, _, _, _, _, h49⟩ (by omega) (by omega) (by omega) (by omega) (by omega) (fun M' h1 h2 => ⟨rfl, h1, h2⟩)) rfl (by omega) h49 rfl rfl rfl rfl (by decide) (Nat.le_of_ble_eq_true rfl) rfl (fun mhM_3 hM_3 => ?_)
    obtain ⟨hphM_3, hshM_3⟩ := hM_3
    refine w_aload_n (n := 24) O dX7_keep_23 rfl rfl rfl ?_
    refine w_getf (n := 27) O 27 dX7_keep_24 (by omega) ((hshM_3 (49) (by omega)).trans h49) rfl (by decide) uX7 uf_X7_35 rfl rfl ?_
    refine w_iload_n (n := 28) O dX7_keep_27 rfl rfl rfl ?_
    refine w_zaldB (n := 29) O dX7_keep_28 hW.2.1 (by omega) ((hshM_3 (57) (by omega)).trans h57) (by omega) (by decide) rfl ?_
    refine w_if_eqB (n := 32) (tgt := 36) O dX7_keep_29 (by decide) rfl (fun c_4 => ?_) (fun c_4 => ?_)
    · skip
      refine w_iconst (n := 37) O dX7_keep_36 (v := (nI 0)) (by decide) rfl ?_
      refine w_istore_n (n := 38) (lv' := [(2, .int (nI 0)), (0, .ref (gb_ad G 49)), (1, .int (nI (j)))]) O dX7_keep_37 rfl (by decide) rfl rfl ?_
      refine w_aload_n (n := 39) O dX7_keep_38 rfl rfl rfl ?_
      refine w_getf (n := 42) O 27 dX7_keep_39 (by omega) ((hshM_3 (49) (by omega)).trans h49) rfl (by decide) uX7 uf_X7_35 rfl rfl ?_
      refine w_iload_n (n := 43) O dX7_keep_42 rfl rfl rfl ?_
      refine w_iconst (n := 44) O dX7_keep_43 (v := (nI 1)) (by decide) rfl ?_
      refine w_zastB (n := 45) (v := true) O dX7_keep_44 hW.2.1 (by omega) ((hshM_3 (57) (by omega)).trans h57) (by decide) (by omega) (by decide) rfl ?_
      refine w_iload_n (n := 46) O dX7_keep_45 rfl rfl rfl ?_
      refine w_iret O dX7_keep_46 ?_
      have e0 : a_keep kp (nI j) = (nI (0)) := by unfold a_keep; rw [if_pos hr_j, cl_j, c_4]; rfl
      have e1 : s_keep T im kp (nI j) = (upI im j T, upK kp j true) := by unfold s_keep; rw [if_pos hr_j, cl_j]
      rw [e0, e1] at hQ
      try dsimp only at hQ
      exact hQ ((va_up mhM_3 (57) (ZB G 2 (fun k => if k = j then true else kp k)))) ⟨_, _, _, _, _, _, _, _, _, _, _, _, _, _, _, _, _, _, _, _, ((va_up_ne _ _ (by decide)).trans ((hshM_3 (49) (by omega)).trans h49)), ((va_up_ne _ _ (by decide)).trans hphM_3), ((va_up_ne _ _ (by decide)).trans ((hshM_3 (51) (by omega)).trans h51)), ((va_up_ne _ _ (by decide)).trans ((hshM_3 (52) (by omega)).trans h52)), ((va_up_ne _ _ (by decide)).trans ((hshM_3 (53) (by omega)).trans h53)), ((va_up_ne _ _ (by decide)).trans ((hshM_3 (54) (by omega)).trans h54)), ((va_up_ne _ _ (by decide)).trans ((hshM_3 (55) (by omega)).trans h55)), ((va_up_ne _ _ (by decide)).trans ((hshM_3 (56) (by omega)).trans h56)), (va_up_self _ _ _), ((va_up_ne _ _ (by decide)).trans ((hshM_3 (58) (by omega)).trans h58)), ((va_up_ne _ _ (by decide)).trans ((hshM_3 (59) (by omega)).trans h59)), ((va_up_ne _ _ (by decide)).trans ((hshM_3 (60) (by omega)).trans h60)), htm, (pg_cp hpg (by omega)), (fun k hk hkk => by by_cases e : k = j; (rw [e, show upI im j T j = T from if_pos rfl]; exact pg0_cong hpg (fun q hq => (cpS_in hq).trans (by rw [Nat.zero_add]))); (rw [show upI im j T k = im k from if_neg e]; exact pgO_cong (hIm k hk (by rw [← show upK kp j true k = kp k from if_neg e]; exact hkk)) (fun q h1 h2 => cpS_out (by omega)))), hSe, hLa, hLe, hCe⟩ ((sm.rf.tr (hshM_3.mono (by omega) (by omega))).up (by omega) (by omega))
    · skip
      refine w_iconst (n := 33) O dX7_keep_32 (v := (nI 1)) (by decide) rfl ?_
      refine w_goto (tgt := 37) O dX7_keep_33 (by decide) ?_
      refine w_istore_n (n := 38) (lv' := [(2, .int (nI 1)), (0, .ref (gb_ad G 49)), (1, .int (nI (j)))]) O dX7_keep_37 rfl (by decide) rfl rfl ?_
      refine w_aload_n (n := 39) O dX7_keep_38 rfl rfl rfl ?_
      refine w_getf (n := 42) O 27 dX7_keep_39 (by omega) ((hshM_3 (49) (by omega)).trans h49) rfl (by decide) uX7 uf_X7_35 rfl rfl ?_
      refine w_iload_n (n := 43) O dX7_keep_42 rfl rfl rfl ?_
      refine w_iconst (n := 44) O dX7_keep_43 (v := (nI 1)) (by decide) rfl ?_
      refine w_zastB (n := 45) (v := true) O dX7_keep_44 hW.2.1 (by omega) ((hshM_3 (57) (by omega)).trans h57) (by decide) (by omega) (by decide) rfl ?_
      refine w_iload_n (n := 46) O dX7_keep_45 rfl rfl rfl ?_
      refine w_iret O dX7_keep_46 ?_
      have e0 : a_keep kp (nI j) = (nI (1)) := by unfold a_keep; rw [if_pos hr_j, cl_j, c_4]; rfl
      have e1 : s_keep T im kp (nI j) = (upI im j T, upK kp j true) := by unfold s_keep; rw [if_pos hr_j, cl_j]
      rw [e0, e1] at hQ
      try dsimp only at hQ
      exact hQ ((va_up mhM_3 (57) (ZB G 2 (fun k => if k = j then true else kp k)))) ⟨_, _, _, _, _, _, _, _, _, _, _, _, _, _, _, _, _, _, _, _, ((va_up_ne _ _ (by decide)).trans ((hshM_3 (49) (by omega)).trans h49)), ((va_up_ne _ _ (by decide)).trans hphM_3), ((va_up_ne _ _ (by decide)).trans ((hshM_3 (51) (by omega)).trans h51)), ((va_up_ne _ _ (by decide)).trans ((hshM_3 (52) (by omega)).trans h52)), ((va_up_ne _ _ (by decide)).trans ((hshM_3 (53) (by omega)).trans h53)), ((va_up_ne _ _ (by decide)).trans ((hshM_3 (54) (by omega)).trans h54)), ((va_up_ne _ _ (by decide)).trans ((hshM_3 (55) (by omega)).trans h55)), ((va_up_ne _ _ (by decide)).trans ((hshM_3 (56) (by omega)).trans h56)), (va_up_self _ _ _), ((va_up_ne _ _ (by decide)).trans ((hshM_3 (58) (by omega)).trans h58)), ((va_up_ne _ _ (by decide)).trans ((hshM_3 (59) (by omega)).trans h59)), ((va_up_ne _ _ (by decide)).trans ((hshM_3 (60) (by omega)).trans h60)), htm, (pg_cp hpg (by omega)), (fun k hk hkk => by by_cases e : k = j; (rw [e, show upI im j T j = T from if_pos rfl]; exact pg0_cong hpg (fun q hq => (cpS_in hq).trans (by rw [Nat.zero_add]))); (rw [show upI im j T k = im k from if_neg e]; exact pgO_cong (hIm k hk (by rw [← show upK kp j true k = kp k from if_neg e]; exact hkk)) (fun q h1 h2 => cpS_out (by omega)))), hSe, hLa, hLe, hCe⟩ ((sm.rf.tr (hshM_3.mono (by omega) (by omega))).up (by omega) (by omega))
  · skip
    refine w_iconst (n := 11) O dX7_keep_10 (v := (-1)) (by decide) rfl ?_
    refine w_iret O dX7_keep_11 ?_
    have e0 : a_keep kp x = -1 := by unfold a_keep; rw [if_neg (by rw [c_2]; decide)]
    have e1 : s_keep T im kp x = (im, kp) := by unfold s_keep; rw [if_neg (by rw [c_2]; decide)]
    rw [e0, e1] at hQ
    try dsimp only at hQ
    exact hQ (mM) ⟨_, _, _, _, _, _, _, _, _, _, _, _, _, _, _, _, _, _, _, _, h49, h50, h51, h52, h53, h54, h55, h56, h57, h58, h59, h60, htm, hpg, hIm, hSe, hLa, hLe, hCe⟩ sm.rf
set_option maxRecDepth 100000 in
set_option maxHeartbeats 4000000 in
theorem f_X7_back {G : gb_G} (hW : gW G) {Q : Option Value → gb_M → Prop} {mM : gb_M} {T : Tw} {im : Nat → Tw} {kp : Nat → Bool} {bs : Nat → Nat} {ln fa : Nat} {st sf : Nat → Nat} {sn : Nat} {sh : Sh} {sc : Nat → Nat → Int32} {tn : Nat} (hok : okS T im kp bs ln fa st sf sn sh tn) (hM : isMW G mM T im kp bs ln fa st sf sn sh sc tn) {x : Int32}  (hQ : ∀ M', isMW G M' (s_back T im kp x) im kp bs ln fa st sf sn sh sc tn → sm mM M' 49 60 → Q (some (.int (a_back im kp x))) M') : Fn G 1 yX7_back cX7_back 2 (some .int) [.ref (gb_ad G 49), .int (x)] mM Q := by
  obtain ⟨s, se, le, rp, te, la, ce, tm, x3, x4, x5, x6, x7, x11, x12, x13, x14, x15, x16, x26, h49, h50, h51, h52, h53, h54, h55, h56, h57, h58, h59, h60, htm, hpg, hIm, hSe, hLa, hLe, hCe⟩ := hM
  have ok := hok.1
  have hn4 := ok.1
  have hst9 := hok.2.1
  have hln := hok.2.2.2.1
  have hsn6 := hok.2.2.2.2.2.2.1
  have hN := hW.2.2.1
  refine Fn.of hW.1 [(0, .ref (gb_ad G 49)), (1, .int (x))] (by decide) (Nat.le_of_ble_eq_true rfl) rfl ?_
  intro X O
  refine w_iload_n (n := 1) O dX7_back_0 rfl rfl rfl ?_
  refine w_i2l (n := 2) O dX7_back_1 rfl ?_
  refine w_lconst (n := 3) O dX7_back_2 (v := lN 0) (by decide) rfl ?_
  refine w_lconst (n := 4) O dX7_back_3 (v := lN 1) (by decide) rfl ?_
  refine w_cS (n := 7) (ro := some (.int (bI (wIn (x) (nI 0) (nI 1))))) (R := fun mM' => mM = mM') (st := []) (st1 := [.int (bI (wIn (x) (nI 0) (nI 1)))]) (As := [.long ((x).toInt64), .long (lN 0), .long (lN 1)]) O dX7_back_4 ul_X7_50 um_X7_in (f_X7_in (x := (x)) (y := (nI 0)) (z := (nI 1)) hW rfl (nI_l (by decide)).symm (nI_l (by decide)).symm ⟨rfl, rfl⟩) rfl rfl rfl (by decide) (Nat.le_of_ble_eq_true rfl) rfl (fun mhM_1 hM_1 => ?_)
  subst hM_1
  refine w_if_neB (n := 10) (tgt := 12) O dX7_back_7 (by decide) rfl (fun c_2 => ?_) (fun c_2 => ?_)
  · skip
    have hr_j := c_2
    obtain ⟨j, ja, jb, rfl⟩ := wIn_t (by omega) c_2 (by omega)
    have cl_j : (nI j).toNatClampNeg = j := nI_clamp (by omega)
    refine w_aload_n (n := 13) O dX7_back_12 rfl rfl rfl ?_
    refine w_getf (n := 16) O 27 dX7_back_13 (by omega) h49 rfl (by decide) uX7 uf_X7_35 rfl rfl ?_
    refine w_iload_n (n := 17) O dX7_back_16 rfl rfl rfl ?_
    refine w_zaldB (n := 18) O dX7_back_17 hW.2.1 (by omega) h57 (by omega) (by decide) rfl ?_
    refine w_if_neB (n := 21) (tgt := 24) O dX7_back_18 (by decide) rfl (fun c_3 => ?_) (fun c_3 => ?_)
    · skip
      refine w_aload_n (n := 25) O dX7_back_24 rfl rfl rfl ?_
      refine w_bipush (n := 27) O dX7_back_25 (v := (nI 30)) (by decide) rfl ?_
      refine w_iload_n (n := 28) O dX7_back_27 rfl rfl rfl ?_
      refine w_iconst (n := 29) O dX7_back_28 (v := (nI 1)) (by decide) rfl ?_
      refine w_iaddN (n := 30) O dX7_back_29 rfl ?_
      refine w_imulN (n := 31) O dX7_back_30 rfl ?_
      refine w_iconst (n := 32) O dX7_back_31 (v := (nI 0)) (by decide) rfl ?_
      refine w_cV (n := 35) (ro := none) (R := fun mM' => mM' 50 = IA G 150 (pgI (cpS s (30 * (j + 1)) 0)) ∧ sm mM mM' 50 50) (st := []) (st1 := []) (As := [.int (nI ((30 * (j + 1)))), .int (nI 0)]) (b := 49) O dX7_back_32 ul_X7_224 um_X7_copies (f_X7_copies (s := s) (T := T) (lo := 0) (li := 0) (to := none) (tm := tm) hW ⟨h50, hpg, _, _, _, _, _, _, _, _, _, _, _, _, _, _, _, _, h49⟩ (by omega) (by omega) (by omega) (by omega) (by omega) (fun M' h1 h2 => ⟨rfl, h1, h2⟩)) rfl (by omega) h49 rfl rfl rfl rfl (by decide) (Nat.le_of_ble_eq_true rfl) rfl (fun mhM_4 hM_4 => ?_)
      obtain ⟨hphM_4, hshM_4⟩ := hM_4
      have hpb : pg0 (cpS s (30 * (j + 1)) 0) (im j) := pg0_cong (hIm j (by omega) c_3) (fun k hk => by have := cpS_in (s := s) (o := (30 * (j + 1))) (q := 0) hk; rw [Nat.zero_add] at this; exact this)
      refine w_aload_n (n := 36) O dX7_back_35 rfl rfl rfl ?_
      refine w_getf (n := 39) O 0 dX7_back_36 (by omega) ((hshM_4 (49) (by omega)).trans h49) rfl (by decide) uX7 uf_X7_7 rfl rfl ?_
      refine w_bipush (n := 41) O dX7_back_39 (v := (nI 26)) (by decide) rfl ?_
      refine w_ialdP (n := 42) (v := ((im j)).2.2.2.2.2.2) O dX7_back_41 hW.2.1 (by omega) hphM_4 (by omega) (by decide) (by omega) hpb.2.2.2.2.2 rfl ?_
      refine w_iret O dX7_back_42 ?_
      have hgn : (im j).2.2.2.1 = T.2.2.2.1 := (hok.2.2.1 j (by omega)).2.2 c_3
      have e0 : a_back im kp (nI j) = (nI (((im j)).2.2.2.2.2.2)) := by unfold a_back; rw [if_pos hr_j, cl_j, if_pos c_3]
      have e1 : s_back T im kp (nI j) = im j := by unfold s_back; rw [cl_j, if_pos ⟨hr_j, c_3⟩]
      rw [e0, e1] at hQ
      try dsimp only at hQ
      exact hQ (mhM_4) ⟨_, _, _, _, _, _, _, _, _, _, _, _, _, _, _, _, _, _, _, _, (by rw [hgn]; exact ((hshM_4 (49) (by omega)).trans h49)), hphM_4, ((hshM_4 (51) (by omega)).trans h51), ((hshM_4 (52) (by omega)).trans h52), ((hshM_4 (53) (by omega)).trans h53), ((hshM_4 (54) (by omega)).trans h54), ((hshM_4 (55) (by omega)).trans h55), ((hshM_4 (56) (by omega)).trans h56), ((hshM_4 (57) (by omega)).trans h57), ((hshM_4 (58) (by omega)).trans h58), ((hshM_4 (59) (by omega)).trans h59), ((hshM_4 (60) (by omega)).trans h60), htm, hpb, (fun k hk hkk => pgO_cong (hIm k hk hkk) (fun q h1 h2 => cpS_out (by omega))), hSe, hLa, hLe, hCe⟩ (sm.rf.tr (hshM_4.mono (by omega) (by omega)))
    · skip
      refine w_bipush (n := 23) O dX7_back_21 (v := (-2)) (by decide) rfl ?_
      refine w_iret O dX7_back_23 ?_
      have e0 : a_back im kp (nI j) = -2 := by unfold a_back; rw [if_pos hr_j, cl_j, if_neg (by rw [c_3]; decide)]
      have e1 : s_back T im kp (nI j) = T := by unfold s_back; rw [cl_j, if_neg (fun z => by rw [c_3] at z; exact absurd z.2 (by decide))]
      rw [e0, e1] at hQ
      try dsimp only at hQ
      exact hQ (mM) ⟨_, _, _, _, _, _, _, _, _, _, _, _, _, _, _, _, _, _, _, _, h49, h50, h51, h52, h53, h54, h55, h56, h57, h58, h59, h60, htm, hpg, hIm, hSe, hLa, hLe, hCe⟩ sm.rf
  · skip
    refine w_iconst (n := 11) O dX7_back_10 (v := (-1)) (by decide) rfl ?_
    refine w_iret O dX7_back_11 ?_
    have e0 : a_back im kp x = -1 := by unfold a_back; rw [if_neg (by rw [c_2]; decide)]
    have e1 : s_back T im kp x = T := by unfold s_back; rw [if_neg (fun z => by rw [c_2] at z; exact absurd z.1 (by decide))]
    rw [e0, e1] at hQ
    try dsimp only at hQ
    exact hQ (mM) ⟨_, _, _, _, _, _, _, _, _, _, _, _, _, _, _, _, _, _, _, _, h49, h50, h51, h52, h53, h54, h55, h56, h57, h58, h59, h60, htm, hpg, hIm, hSe, hLa, hLe, hCe⟩ sm.rf
theorem nI_neg1 {a : Nat} (ha : a < 2 ^ 31) : ¬ (-1 : Int32) = nI a := by
  intro h
  have e := congrArg Int32.toInt h
  rw [nI_toInt ha] at e
  have e4 : (-1 : Int32).toInt = -1 := by decide
  omega
theorem laM_n {o : Option (Nat × Nat)} (hb : ∀ q, o = some q → q.1 ≤ 2 ∧ q.2 ≤ 40) (h : laM o = -4) : o = none := by
  cases o with
  | none => rfl
  | some q => exact absurd h.symm (nI_neg4 (by have := hb q rfl; omega))
theorem laM_s {o : Option (Nat × Nat)} (h : ¬ laM o = -4) : ∃ q, o = some q := by
  cases o with
  | none => exact absurd rfl h
  | some q => exact ⟨q, rfl⟩
set_option maxRecDepth 100000 in
set_option maxHeartbeats 4000000 in
theorem f_X7_count {G : gb_G} (hW : gW G) {Q : Option Value → gb_M → Prop} {mM : gb_M} {T : Tw} {im : Nat → Tw} {kp : Nat → Bool} {bs : Nat → Nat} {ln fa : Nat} {st sf : Nat → Nat} {sn : Nat} {sh : Sh} {sc : Nat → Nat → Int32} {tn : Nat} (hok : okS T im kp bs ln fa st sf sn sh tn) (hM : isMW G mM T im kp bs ln fa st sf sn sh sc tn) {x : Int32}  (hQ : ∀ M', isMW G M' T im kp bs ln fa st sf sn sh sc tn → sm mM M' 49 60 → Q (some (.int (a_count T kp ln sn sh x))) M') : Fn G 3 yX7_count cX7_count 5 (some .int) [.ref (gb_ad G 49), .int (x)] mM Q := by
  obtain ⟨s, se, le, rp, te, la, ce, tm, x3, x4, x5, x6, x7, x11, x12, x13, x14, x15, x16, x26, h49, h50, h51, h52, h53, h54, h55, h56, h57, h58, h59, h60, htm, hpg, hIm, hSe, hLa, hLe, hCe⟩ := hM
  have ok := hok.1
  have hn4 := ok.1
  have hst9 := hok.2.1
  have hln := hok.2.2.2.1
  have hsn6 := hok.2.2.2.2.2.2.1
  have hN := hW.2.2.1
  refine Fn.of hW.1 [(0, .ref (gb_ad G 49)), (1, .int (x))] (by decide) (Nat.le_of_ble_eq_true rfl) rfl ?_
  intro X O
  refine w_iconst (n := 1) O dX7_count_0 (v := (nI 0)) (by decide) rfl ?_
  refine w_istore_n (n := 2) (lv' := [(2, .int (nI 0)), (0, .ref (gb_ad G 49)), (1, .int (x))]) O dX7_count_1 rfl (by decide) rfl rfl ?_
  refine w_iconst (n := 3) O dX7_count_2 (v := (nI 0)) (by decide) rfl ?_
  refine w_istore_n (n := 4) (lv' := [(3, .int (nI 0)), (2, .int (nI 0)), (0, .ref (gb_ad G 49)), (1, .int (x))]) O dX7_count_3 rfl (by decide) rfl rfl ?_
  refine w_iconst (n := 5) O dX7_count_4 (v := (nI 0)) (by decide) rfl ?_
  refine w_istore (n := 7) (lv' := [(4, .int (nI 0)), (3, .int (nI 0)), (2, .int (nI 0)), (0, .ref (gb_ad G 49)), (1, .int (x))]) O dX7_count_5 (by decide) rfl rfl ?_
  have LK : ∀ (k : Nat) (i c1 c2 : Nat), T.2.2.2.1 - i = k → i ≤ T.2.2.2.1 → c1 = sSum (tGives T) i → c2 = sSum (fun g => T.1 (g * 6 + 1)) i → Wm G X 5 Q 7 [(0, .ref (gb_ad G 49)), (1, .int (x)), (2, .int (nI (c1))), (3, .int (nI (c2))), (4, .int (nI (i)))] [] mM := by
    intro k
    induction k using Nat.strongRecOn with
    | ind k ih_LK =>
      intro i c1 c2 hk hi hc1 hc2
      refine w_iload (n := 9) O dX7_count_7 rfl rfl ?_
      refine w_aload_n (n := 10) O dX7_count_9 rfl rfl rfl ?_
      refine w_getf (n := 13) O 1 dX7_count_10 (by omega) h49 rfl (by decide) uX7 uf_X7_136 rfl rfl ?_
      refine w_icmp_geN (n := 16) (tgt := 43) O dX7_count_13 (by omega) (by omega) (by decide) rfl (fun c_1 => ?_) (fun c_1 => ?_)
      · skip
        refine w_iload_n (n := 44) O dX7_count_43 rfl rfl rfl ?_
        rcases sw_in x 5 (by decide) with ⟨wsw_2, hwsw_2, hxsw_2⟩ | sw_2
        · rcases (show wsw_2 = 0 ∨ wsw_2 = 1 ∨ wsw_2 = 2 ∨ wsw_2 = 3 ∨ wsw_2 = 4 ∨ wsw_2 = 5 by omega) with rfl | rfl | rfl | rfl | rfl | rfl
          · skip
            subst hxsw_2
            refine w_tableIn (tgt := 84) O dX7_count_44 (by decide) (by decide) rfl (by decide) ?_
            refine w_aload_n (n := 85) O dX7_count_84 rfl rfl rfl ?_
            refine w_getf (n := 88) O 24 dX7_count_85 (by omega) h49 rfl (by decide) uX7 uf_X7_139 rfl rfl ?_
            refine w_iret O dX7_count_88 ?_
            have e0 : a_count T kp ln sn sh (nI 0) = (nI (sn)) := by unfold a_count; rw [if_pos rfl]
            rw [e0] at hQ
            try dsimp only at hQ
            exact hQ (mM) ⟨_, _, _, _, _, _, _, _, _, _, _, _, _, _, _, _, _, _, _, _, h49, h50, h51, h52, h53, h54, h55, h56, h57, h58, h59, h60, htm, hpg, hIm, hSe, hLa, hLe, hCe⟩ sm.rf
          · skip
            subst hxsw_2
            refine w_tableIn (tgt := 89) O dX7_count_44 (by decide) (by decide) rfl (by decide) ?_
            refine w_aload_n (n := 90) O dX7_count_89 rfl rfl rfl ?_
            refine w_getf (n := 93) O 27 dX7_count_90 (by omega) h49 rfl (by decide) uX7 uf_X7_35 rfl rfl ?_
            refine w_iconst (n := 94) O dX7_count_93 (v := (nI 0)) (by decide) rfl ?_
            refine w_zaldB (n := 95) O dX7_count_94 hW.2.1 (by omega) h57 (by omega) (by decide) rfl ?_
            refine w_if_eqB (n := 98) (tgt := 102) O dX7_count_95 (by decide) rfl (fun c_3 => ?_) (fun c_3 => ?_)
            · skip
              refine w_iconst (n := 103) O dX7_count_102 (v := (nI 0)) (by decide) rfl ?_
              refine w_aload_n (n := 104) O dX7_count_103 rfl rfl rfl ?_
              refine w_getf (n := 107) O 27 dX7_count_104 (by omega) h49 rfl (by decide) uX7 uf_X7_35 rfl rfl ?_
              refine w_iconst (n := 108) O dX7_count_107 (v := (nI 1)) (by decide) rfl ?_
              refine w_zaldB (n := 109) O dX7_count_108 hW.2.1 (by omega) h57 (by omega) (by decide) rfl ?_
              refine w_if_eqB (n := 112) (tgt := 116) O dX7_count_109 (by decide) rfl (fun c_4 => ?_) (fun c_4 => ?_)
              · skip
                refine w_iconst (n := 117) O dX7_count_116 (v := (nI 0)) (by decide) rfl ?_
                refine w_iaddN (n := 118) O dX7_count_117 rfl ?_
                refine w_iret O dX7_count_118 ?_
                have e0 : a_count T kp ln sn sh (nI 1) = (nI ((0 + 0))) := by unfold a_count; rw [if_neg (by decide), if_pos rfl, c_3, c_4]; rfl
                rw [e0] at hQ
                try dsimp only at hQ
                exact hQ (mM) ⟨_, _, _, _, _, _, _, _, _, _, _, _, _, _, _, _, _, _, _, _, h49, h50, h51, h52, h53, h54, h55, h56, h57, h58, h59, h60, htm, hpg, hIm, hSe, hLa, hLe, hCe⟩ sm.rf
              · skip
                refine w_iconst (n := 113) O dX7_count_112 (v := (nI 1)) (by decide) rfl ?_
                refine w_goto (tgt := 117) O dX7_count_113 (by decide) ?_
                refine w_iaddN (n := 118) O dX7_count_117 rfl ?_
                refine w_iret O dX7_count_118 ?_
                have e0 : a_count T kp ln sn sh (nI 1) = (nI ((0 + 1))) := by unfold a_count; rw [if_neg (by decide), if_pos rfl, c_3, c_4]; rfl
                rw [e0] at hQ
                try dsimp only at hQ
                exact hQ (mM) ⟨_, _, _, _, _, _, _, _, _, _, _, _, _, _, _, _, _, _, _, _, h49, h50, h51, h52, h53, h54, h55, h56, h57, h58, h59, h60, htm, hpg, hIm, hSe, hLa, hLe, hCe⟩ sm.rf
            · skip
              refine w_iconst (n := 99) O dX7_count_98 (v := (nI 1)) (by decide) rfl ?_
              refine w_goto (tgt := 103) O dX7_count_99 (by decide) ?_
              refine w_aload_n (n := 104) O dX7_count_103 rfl rfl rfl ?_
              refine w_getf (n := 107) O 27 dX7_count_104 (by omega) h49 rfl (by decide) uX7 uf_X7_35 rfl rfl ?_
              refine w_iconst (n := 108) O dX7_count_107 (v := (nI 1)) (by decide) rfl ?_
              refine w_zaldB (n := 109) O dX7_count_108 hW.2.1 (by omega) h57 (by omega) (by decide) rfl ?_
              refine w_if_eqB (n := 112) (tgt := 116) O dX7_count_109 (by decide) rfl (fun c_5 => ?_) (fun c_5 => ?_)
              · skip
                refine w_iconst (n := 117) O dX7_count_116 (v := (nI 0)) (by decide) rfl ?_
                refine w_iaddN (n := 118) O dX7_count_117 rfl ?_
                refine w_iret O dX7_count_118 ?_
                have e0 : a_count T kp ln sn sh (nI 1) = (nI ((1 + 0))) := by unfold a_count; rw [if_neg (by decide), if_pos rfl, c_3, c_5]; rfl
                rw [e0] at hQ
                try dsimp only at hQ
                exact hQ (mM) ⟨_, _, _, _, _, _, _, _, _, _, _, _, _, _, _, _, _, _, _, _, h49, h50, h51, h52, h53, h54, h55, h56, h57, h58, h59, h60, htm, hpg, hIm, hSe, hLa, hLe, hCe⟩ sm.rf
              · skip
                refine w_iconst (n := 113) O dX7_count_112 (v := (nI 1)) (by decide) rfl ?_
                refine w_goto (tgt := 117) O dX7_count_113 (by decide) ?_
                refine w_iaddN (n := 118) O dX7_count_117 rfl ?_
                refine w_iret O dX7_count_118 ?_
                have e0 : a_count T kp ln sn sh (nI 1) = (nI ((1 + 1))) := by unfold a_count; rw [if_neg (by decide), if_pos rfl, c_3, c_5]; rfl
                rw [e0] at hQ
                try dsimp only at hQ
                exact hQ (mM) ⟨_, _, _, _, _, _, _, _, _, _, _, _, _, _, _, _, _, _, _, _, h49, h50, h51, h52, h53, h54, h55, h56, h57, h58, h59, h60, htm, hpg, hIm, hSe, hLa, hLe, hCe⟩ sm.rf
          · skip
            subst hxsw_2
            refine w_tableIn (tgt := 119) O dX7_count_44 (by decide) (by decide) rfl (by decide) ?_
            refine w_aload_n (n := 120) O dX7_count_119 rfl rfl rfl ?_
            refine w_getf (n := 123) O 9 dX7_count_120 (by omega) h49 rfl (by decide) uX7 uf_X7_54 rfl rfl ?_
            refine w_iret O dX7_count_123 ?_
            have e0 : a_count T kp ln sn sh (nI 2) = (nI (ln)) := by unfold a_count; rw [if_neg (by decide), if_neg (by decide), if_pos rfl]
            rw [e0] at hQ
            try dsimp only at hQ
            exact hQ (mM) ⟨_, _, _, _, _, _, _, _, _, _, _, _, _, _, _, _, _, _, _, _, h49, h50, h51, h52, h53, h54, h55, h56, h57, h58, h59, h60, htm, hpg, hIm, hSe, hLa, hLe, hCe⟩ sm.rf
          · skip
            subst hxsw_2
            refine w_tableIn (tgt := 124) O dX7_count_44 (by decide) (by decide) rfl (by decide) ?_
            refine w_aload_n (n := 125) O dX7_count_124 rfl rfl rfl ?_
            refine w_getf (n := 128) O 28 dX7_count_125 (by omega) h49 rfl (by decide) uX7 uf_X7_39 rfl rfl ?_
            refine w_iconst (n := 129) O dX7_count_128 (v := (nI 0)) (by decide) rfl ?_
            refine w_ialdA (n := 130) O dX7_count_129 hW.2.1 (by omega) h58 (by omega) (by decide) rfl ?_
            refine w_bipush (n := 132) O dX7_count_130 (v := (-4)) (by decide) rfl ?_
            refine w_icmp_ne (n := 135) (tgt := 140) O dX7_count_132 (by decide) rfl (fun c_6 => ?_) (fun c_6 => ?_)
            · skip
              obtain ⟨q0, s0s⟩ := laM_s (fun z => c_6 ((hLa 0 (by decide)).trans z))
              have hq0 := hok.2.2.2.2.2.2.2.2.1 0 (by decide) q0 s0s
              have hl0 := hLe 0 (by decide) q0 s0s
              refine w_aload_n (n := 141) O dX7_count_140 rfl rfl rfl ?_
              refine w_getf (n := 144) O 29 dX7_count_141 (by omega) h49 rfl (by decide) uX7 uf_X7_42 rfl rfl ?_
              refine w_iconst (n := 145) O dX7_count_144 (v := (nI 0)) (by decide) rfl ?_
              refine w_ialdN (n := 146) O dX7_count_145 hW.2.1 (by omega) h59 (by omega) (by decide) rfl ?_
              refine w_top (nI q0.2) (by rw [hl0]) ?_
              refine w_iret O dX7_count_146 ?_
              have e0 : a_count T kp ln sn sh (nI 3) = (nI (q0.2)) := by unfold a_count; rw [if_neg (by decide), if_neg (by decide), if_neg (by decide), if_pos rfl, s0s]; exact if_neg (fun z => absurd z.symm (nI_neg1 (by omega)))
              rw [e0] at hQ
              try dsimp only at hQ
              exact hQ (mM) ⟨_, _, _, _, _, _, _, _, _, _, _, _, _, _, _, _, _, _, _, _, h49, h50, h51, h52, h53, h54, h55, h56, h57, h58, h59, h60, htm, hpg, hIm, hSe, hLa, hLe, hCe⟩ sm.rf
            · skip
              have s0n : sh 0 = none := laM_n (hok.2.2.2.2.2.2.2.2.1 0 (by decide)) ((hLa 0 (by decide)).symm.trans c_6)
              refine w_bipush (n := 137) O dX7_count_135 (v := (-4)) (by decide) rfl ?_
              refine w_goto (tgt := 146) O dX7_count_137 (by decide) ?_
              refine w_iret O dX7_count_146 ?_
              have e0 : a_count T kp ln sn sh (nI 3) = (-4) := by unfold a_count; rw [if_neg (by decide), if_neg (by decide), if_neg (by decide), if_pos rfl, show sh 0 = none from s0n]; rfl
              rw [e0] at hQ
              try dsimp only at hQ
              exact hQ (mM) ⟨_, _, _, _, _, _, _, _, _, _, _, _, _, _, _, _, _, _, _, _, h49, h50, h51, h52, h53, h54, h55, h56, h57, h58, h59, h60, htm, hpg, hIm, hSe, hLa, hLe, hCe⟩ sm.rf
          · skip
            subst hxsw_2
            refine w_tableIn (tgt := 147) O dX7_count_44 (by decide) (by decide) rfl (by decide) ?_
            refine w_iload_n (n := 148) O dX7_count_147 rfl rfl rfl ?_
            refine w_iret O dX7_count_148 ?_
            have e0 : a_count T kp ln sn sh (nI 4) = (nI (c1)) := by unfold a_count; rw [if_neg (by decide), if_neg (by decide), if_neg (by decide), if_neg (by decide), if_pos rfl, show T.2.2.2.1 = i by omega, ← hc1]
            rw [e0] at hQ
            try dsimp only at hQ
            exact hQ (mM) ⟨_, _, _, _, _, _, _, _, _, _, _, _, _, _, _, _, _, _, _, _, h49, h50, h51, h52, h53, h54, h55, h56, h57, h58, h59, h60, htm, hpg, hIm, hSe, hLa, hLe, hCe⟩ sm.rf
          · skip
            subst hxsw_2
            refine w_tableIn (tgt := 149) O dX7_count_44 (by decide) (by decide) rfl (by decide) ?_
            refine w_iload_n (n := 150) O dX7_count_149 rfl rfl rfl ?_
            refine w_iret O dX7_count_150 ?_
            have e0 : a_count T kp ln sn sh (nI 5) = (nI (c2)) := by unfold a_count; rw [if_neg (by decide), if_neg (by decide), if_neg (by decide), if_neg (by decide), if_neg (by decide), if_pos rfl, show T.2.2.2.1 = i by omega, ← hc2]
            rw [e0] at hQ
            try dsimp only at hQ
            exact hQ (mM) ⟨_, _, _, _, _, _, _, _, _, _, _, _, _, _, _, _, _, _, _, _, h49, h50, h51, h52, h53, h54, h55, h56, h57, h58, h59, h60, htm, hpg, hIm, hSe, hLa, hLe, hCe⟩ sm.rf
        · skip
          refine w_tableOut (tgt := 151) O dX7_count_44 (by first | exact sw_2 | omega) (by decide) ?_
          refine w_iconst (n := 152) O dX7_count_151 (v := (-1)) (by decide) rfl ?_
          refine w_iret O dX7_count_152 ?_
          have e0 : a_count T kp ln sn sh x = (-1) := by unfold a_count; rw [if_neg (fun e => by rw [e] at sw_2; revert sw_2; decide), if_neg (fun e => by rw [e] at sw_2; revert sw_2; decide), if_neg (fun e => by rw [e] at sw_2; revert sw_2; decide), if_neg (fun e => by rw [e] at sw_2; revert sw_2; decide), if_neg (fun e => by rw [e] at sw_2; revert sw_2; decide), if_neg (fun e => by rw [e] at sw_2; revert sw_2; decide)]
          rw [e0] at hQ
          try dsimp only at hQ
          exact hQ (mM) ⟨_, _, _, _, _, _, _, _, _, _, _, _, _, _, _, _, _, _, _, _, h49, h50, h51, h52, h53, h54, h55, h56, h57, h58, h59, h60, htm, hpg, hIm, hSe, hLa, hLe, hCe⟩ sm.rf
      · skip
        refine w_iload_n (n := 17) O dX7_count_16 rfl rfl rfl ?_
        refine w_aload_n (n := 18) O dX7_count_17 rfl rfl rfl ?_
        refine w_iload (n := 20) O dX7_count_18 rfl rfl ?_
        refine w_cV (n := 23) (ro := some (.int (nI (tGives T i)))) (R := fun mM' => mM = mM') (st := [.int (nI (c1))]) (st1 := [.int (nI (tGives T i)), .int (nI (c1))]) (As := [.int (nI (i))]) (b := 49) O dX7_count_20 ul_X7_169 um_X7_gives (f_X7_gives0 (s := s) (T := T) (tm := tm) hW ⟨h50, hpg, _, _, _, _, _, _, _, _, _, _, _, _, _, _, _, _, h49⟩ ok htm (by omega) ⟨rfl, rfl⟩) rfl (by omega) h49 rfl rfl rfl rfl (by decide) (Nat.le_of_ble_eq_true rfl) rfl (fun mhM_7 hM_7 => ?_)
        subst hM_7
        refine w_iaddN (n := 24) O dX7_count_23 rfl ?_
        refine w_istore_n (n := 25) (lv' := [(2, .int (nI ((c1 + (tGives T i))))), (0, .ref (gb_ad G 49)), (1, .int (x)), (3, .int (nI (c2))), (4, .int (nI (i)))]) O dX7_count_24 rfl (by decide) rfl rfl ?_
        refine w_iload_n (n := 26) O dX7_count_25 rfl rfl rfl ?_
        refine w_aload_n (n := 27) O dX7_count_26 rfl rfl rfl ?_
        refine w_getf (n := 30) O 0 dX7_count_27 (by omega) h49 rfl (by decide) uX7 uf_X7_7 rfl rfl ?_
        refine w_iconst (n := 31) O dX7_count_30 (v := (nI 4)) (by decide) rfl ?_
        refine w_iload (n := 33) O dX7_count_31 rfl rfl ?_
        refine w_iaddN (n := 34) O dX7_count_33 rfl ?_
        refine w_ialdP (n := 35) (v := T.1 (i * 6 + 1)) O dX7_count_34 hW.2.1 (by omega) h50 (by omega) (by decide) (by omega) (hpg.1 i (by omega)).2.1 rfl ?_
        refine w_iaddN (n := 36) O dX7_count_35 rfl ?_
        refine w_istore_n (n := 37) (lv' := [(3, .int (nI ((c2 + (T.1 (i * 6 + 1)))))), (2, .int (nI ((c1 + (tGives T i))))), (0, .ref (gb_ad G 49)), (1, .int (x)), (4, .int (nI (i)))]) O dX7_count_36 rfl (by decide) rfl rfl ?_
        refine w_iincN (n := 40) (lv' := [(4, .int (nI (i + 1))), (3, .int (nI ((c2 + (T.1 (i * 6 + 1)))))), (2, .int (nI ((c1 + (tGives T i))))), (0, .ref (gb_ad G 49)), (1, .int (x))]) O dX7_count_37 rfl (by decide) rfl rfl ?_
        refine w_goto (tgt := 7) O dX7_count_40 (by decide) ?_
        refine w_lv (lv2 := [(0, .ref (gb_ad G 49)), (1, .int (x)), (2, .int (nI ((c1 + (tGives T i))))), (3, .int (nI ((c2 + (T.1 (i * 6 + 1)))))), (4, .int (nI (i + 1)))]) [3, 4, 2, 1, 0] rfl ?_
        exact ih_LK _ (by omega) (i + 1) ((c1 + (tGives T i))) ((c2 + (T.1 (i * 6 + 1)))) rfl (by omega) (by simp only [sSum, hc1]) (by simp only [sSum, hc2])
  refine w_lv (lv2 := [(0, .ref (gb_ad G 49)), (1, .int (x)), (2, .int (nI 0)), (3, .int (nI 0)), (4, .int (nI 0))]) [3, 4, 2, 1, 0] rfl ?_
  exact LK _ 0 0 0 rfl (Nat.zero_le _) rfl rfl
