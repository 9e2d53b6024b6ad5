set_option maxRecDepth 100000 in
set_option maxHeartbeats 4000000 in
theorem f_X7_spare {G : gb_G} (hW : gW G) {Q : Option Value → gb_M → Prop} {mM : gb_M} {T : Tw} {im : Nat → Tw} {kp : Nat → Bool} {bs : Nat → Nat} {ln fa : Nat} {st sf : Nat → Nat} {sn : Nat} {sh : Sh} {sc : Nat → Nat → Int32} {tn : Nat} (hok : okS T im kp bs ln fa st sf sn sh tn) (hM : isMW G mM T im kp bs ln fa st sf sn sh sc tn) {x : Int32}  (hQ : ∀ M', isMW G M' T im kp bs ln fa st sf sn sh sc tn → sm mM M' 49 60 → Q (some (.int (a_spare T x))) M') : Fn G 8 yX7_spare cX7_spare 4 (some .int) [.ref (gb_ad G 49), .int (x)] mM Q := by
  obtain ⟨s, se, le, rp, te, la, ce, tm, x3, x4, x5, x6, x7, x11, x12, x13, x14, x15, x16, x26, h49, h50, h51, h52, h53, h54, h55, h56, h57, h58, h59, h60, htm, hpg, hIm, hSe, hLa, hLe, hCe⟩ := hM
  have ok := hok.1
  have hn4 := ok.1
  have hst9 := hok.2.1
  have hln := hok.2.2.2.1
  have hsn6 := hok.2.2.2.2.2.2.1
  have hN := hW.2.2.1
  refine Fn.of hW.1 [(0, .ref (gb_ad G 49)), (1, .int (x))] (by decide) (Nat.le_of_ble_eq_true rfl) rfl ?_
  intro X O
  refine w_iload_n (n := 1) O dX7_spare_0 rfl rfl rfl ?_
  refine w_i2l (n := 2) O dX7_spare_1 rfl ?_
  refine w_lconst (n := 3) O dX7_spare_2 (v := lN 0) (by decide) rfl ?_
  refine w_lconst (n := 4) O dX7_spare_3 (v := lN 1) (by decide) rfl ?_
  refine w_cS (n := 7) (ro := some (.int (bI (wIn (x) (nI 0) (nI 1))))) (R := fun mM' => mM = mM') (st := []) (st1 := [.int (bI (wIn (x) (nI 0) (nI 1)))]) (As := [.long ((x).toInt64), .long (lN 0), .long (lN 1)]) O dX7_spare_4 ul_X7_50 um_X7_in (f_X7_in (x := (x)) (y := (nI 0)) (z := (nI 1)) hW rfl (nI_l (by decide)).symm (nI_l (by decide)).symm ⟨rfl, rfl⟩) rfl rfl rfl (by decide) (Nat.le_of_ble_eq_true rfl) rfl (fun mhM_1 hM_1 => ?_)
  subst hM_1
  refine w_if_neB (n := 10) (tgt := 12) O dX7_spare_7 (by decide) rfl (fun c_2 => ?_) (fun c_2 => ?_)
  · skip
    have hr_j := c_2
    obtain ⟨j, ja, jb, rfl⟩ := wIn_t (by omega) c_2 (by omega)
    have cl_j : (nI j).toNatClampNeg = j := nI_clamp (by omega)
    have hp16 := pow4 hn4
    refine w_bipush (n := 14) O dX7_spare_12 (v := (-4)) (by decide) rfl ?_
    refine w_istore_n (n := 15) (lv' := [(2, .int (-4)), (0, .ref (gb_ad G 49)), (1, .int (nI (j)))]) O dX7_spare_14 rfl (by decide) rfl rfl ?_
    refine w_iconst (n := 16) O dX7_spare_15 (v := (nI 0)) (by decide) rfl ?_
    refine w_istore_n (n := 17) (lv' := [(3, .int (nI 0)), (2, .int (-4)), (0, .ref (gb_ad G 49)), (1, .int (nI (j)))]) O dX7_spare_16 rfl (by decide) rfl rfl ?_
    have LS : ∀ (k : Nat) (ks : Nat) (wo : Option Nat) (m1 : gb_M) (lo1 : Nat), 2 ^ T.2.2.2.1 - ks = k → ks ≤ 2 ^ T.2.2.2.1 → wo = (spB T ks).map (·.2) → m1 49 = (.inr (7, [.ref (gb_ad G 50), .int (nI (T.2.2.2.1)), .ref (gb_ad G 51), .int (x3), .int (x4), .int (x5), .int (x6), .int (x7), .ref (gb_ad G 52), .int (nI (ln)), .int (nI (fa)), .int (x11), .int (x12), .int (x13), .int (x14), .int (x15), .int (x16), .ref (gb_ad G 53), .ref (gb_ad G 54), .int (nI (lo1)), .int (nI 0), .int (oI none), .int (nI (tm)), .ref (gb_ad G 55), .int (nI (sn)), .ref (gb_ad G 56), .int (x26), .ref (gb_ad G 57), .ref (gb_ad G 58), .ref (gb_ad G 59), .ref (gb_ad G 60), .int (nI (tn))])) → lo1 < 16 → sm mM m1 49 49 → Wm G X 4 Q 17 [(0, .ref (gb_ad G 49)), (1, .int (nI (j))), (2, .int (oI wo)), (3, .int (nI (ks)))] [] m1 := by
      intro k
      induction k using Nat.strongRecOn with
      | ind k ih_LS =>
        intro ks wo m1 lo1 hk hks hwo h491 hlo1 hs1
        have hbs := fun q (h : spB T ks = some q) => spB_in h
        refine w_iload_n (n := 18) O dX7_spare_17 rfl rfl rfl ?_
        refine w_iconst (n := 19) O dX7_spare_18 (v := (nI 1)) (by decide) rfl ?_
        refine w_aload_n (n := 20) O dX7_spare_19 rfl rfl rfl ?_
        refine w_getf (n := 23) O 1 dX7_spare_20 (by omega) h491 rfl (by decide) uX7 uf_X7_136 rfl rfl ?_
        refine w_ishl (n := 24) O dX7_spare_23 rfl ?_
        refine w_top (nI (2 ^ T.2.2.2.1)) (shl1 (by omega)) ?_
        refine w_icmp_geN (n := 27) (tgt := 68) O dX7_spare_24 (by omega) (by omega) (by decide) rfl (fun c_3 => ?_) (fun c_3 => ?_)
        · skip
          have ekn : ks = 2 ^ T.2.2.2.1 := by omega
          refine w_aload_n (n := 69) O dX7_spare_68 rfl rfl rfl ?_
          refine w_iconst (n := 70) O dX7_spare_69 (v := (nI 0)) (by decide) rfl ?_
          refine w_putf (n := 73) (fs' := [.ref (gb_ad G 50), .int (nI (T.2.2.2.1)), .ref (gb_ad G 51), .int (x3), .int (x4), .int (x5), .int (x6), .int (x7), .ref (gb_ad G 52), .int (nI (ln)), .int (nI (fa)), .int (x11), .int (x12), .int (x13), .int (x14), .int (x15), .int (x16), .ref (gb_ad G 53), .ref (gb_ad G 54), .int (nI 0), .int (nI 0), .int (oI none), .int (nI (tm)), .ref (gb_ad G 55), .int (nI (sn)), .ref (gb_ad G 56), .int (x26), .ref (gb_ad G 57), .ref (gb_ad G 58), .ref (gb_ad G 59), .ref (gb_ad G 60), .int (nI (tn))]) O 19 dX7_spare_70 (by omega) h491 rfl (by decide) uX7 uf_X7_162 tyX7 tyX7_ok nmX7 rfl rfl rfl (Nat.le_of_ble_eq_true rfl) rfl rfl ?_
          refine w_iload_n (n := 74) O dX7_spare_73 rfl rfl rfl ?_
          refine w_bipush (n := 76) O dX7_spare_74 (v := (-4)) (by decide) rfl ?_
          refine w_icmp_eq (n := 79) (tgt := 84) O dX7_spare_76 (by decide) rfl (fun c_4 => ?_) (fun c_4 => ?_)
          · skip
            have hwn : wo = none := oI_none (fun k hk => by rw [hk] at hwo; cases h9 : spB T ks with | none => (rw [h9] at hwo; cases hwo) | some z => (rw [h9] at hwo; cases hwo; have := hbs z h9; show z.2 < 2 ^ 31; omega)) c_4
            have hsn : spB T ks = none := by rw [hwn] at hwo; cases h9 : spB T ks with | none => rfl | some z => (rw [h9] at hwo; cases hwo)
            refine w_iload_n (n := 85) O dX7_spare_84 rfl rfl rfl ?_
            refine w_goto (tgt := 92) O dX7_spare_85 (by decide) ?_
            refine w_iret O dX7_spare_92 ?_
            have e0 : a_spare T (nI j) = (oI wo) := by unfold a_spare; rw [if_pos hr_j, ← ekn]; rw [show spB T ks = none from hsn]; by_cases e9 : nI j = nI 0; (rw [if_pos e9]; exact c_4.symm); (rw [if_neg e9]; exact c_4.symm)
            rw [e0] at hQ
            try dsimp only at hQ
            exact hQ ((va_up m1 (49) (.inr (7, [.ref (gb_ad G 50), .int (nI (T.2.2.2.1)), .ref (gb_ad G 51), .int (x3), .int (x4), .int (x5), .int (x6), .int (x7), .ref (gb_ad G 52), .int (nI (ln)), .int (nI (fa)), .int (x11), .int (x12), .int (x13), .int (x14), .int (x15), .int (x16), .ref (gb_ad G 53), .ref (gb_ad G 54), .int (nI 0), .int (nI 0), .int (oI none), .int (nI (tm)), .ref (gb_ad G 55), .int (nI (sn)), .ref (gb_ad G 56), .int (x26), .ref (gb_ad G 57), .ref (gb_ad G 58), .ref (gb_ad G 59), .ref (gb_ad G 60), .int (nI (tn))])))) ⟨_, _, _, _, _, _, _, _, _, _, _, _, _, _, _, _, _, _, _, _, (va_up_self _ _ _), ((va_up_ne _ _ (by decide)).trans ((hs1 (50) (by omega)).trans h50)), ((va_up_ne _ _ (by decide)).trans ((hs1 (51) (by omega)).trans h51)), ((va_up_ne _ _ (by decide)).trans ((hs1 (52) (by omega)).trans h52)), ((va_up_ne _ _ (by decide)).trans ((hs1 (53) (by omega)).trans h53)), ((va_up_ne _ _ (by decide)).trans ((hs1 (54) (by omega)).trans h54)), ((va_up_ne _ _ (by decide)).trans ((hs1 (55) (by omega)).trans h55)), ((va_up_ne _ _ (by decide)).trans ((hs1 (56) (by omega)).trans h56)), ((va_up_ne _ _ (by decide)).trans ((hs1 (57) (by omega)).trans h57)), ((va_up_ne _ _ (by decide)).trans ((hs1 (58) (by omega)).trans h58)), ((va_up_ne _ _ (by decide)).trans ((hs1 (59) (by omega)).trans h59)), ((va_up_ne _ _ (by decide)).trans ((hs1 (60) (by omega)).trans h60)), htm, hpg, hIm, hSe, hLa, hLe, hCe⟩ ((sm.rf.tr (hs1.mono (by omega) (by omega))).up (by omega) (by omega))
          · skip
            obtain ⟨w, hws⟩ := oI_some c_4
            obtain ⟨q2, hq2, hq3⟩ : ∃ q2, spB T ks = some q2 ∧ q2.2 = w := by rw [hws] at hwo; cases h9 : spB T ks with | none => (rw [h9] at hwo; cases hwo) | some z => (rw [h9] at hwo; exact ⟨z, rfl, by cases hwo; rfl⟩)
            have hw16 := hbs q2 hq2
            have hbq := spB_bc hq2
            rw [hq3] at hbq
            rw [show oI wo = nI w by rw [hws]; rfl]
            refine w_iload_n (n := 80) O dX7_spare_79 rfl rfl rfl ?_
            refine w_iconst (n := 81) O dX7_spare_80 (v := (nI 1)) (by decide) rfl ?_
            refine w_icmp_neN (n := 84) (tgt := 88) O dX7_spare_81 (by omega) (by omega) (by decide) rfl (fun c_5 => ?_) (fun c_5 => ?_)
            · skip
              refine w_iload_n (n := 89) O dX7_spare_88 rfl rfl rfl ?_
              refine w_cS (n := 92) (ro := some (.int (nI (bc w)))) (R := fun mM' => (va_up m1 (49) (.inr (7, [.ref (gb_ad G 50), .int (nI (T.2.2.2.1)), .ref (gb_ad G 51), .int (x3), .int (x4), .int (x5), .int (x6), .int (x7), .ref (gb_ad G 52), .int (nI (ln)), .int (nI (fa)), .int (x11), .int (x12), .int (x13), .int (x14), .int (x15), .int (x16), .ref (gb_ad G 53), .ref (gb_ad G 54), .int (nI 0), .int (nI 0), .int (oI none), .int (nI (tm)), .ref (gb_ad G 55), .int (nI (sn)), .ref (gb_ad G 56), .int (x26), .ref (gb_ad G 57), .ref (gb_ad G 58), .ref (gb_ad G 59), .ref (gb_ad G 60), .int (nI (tn))]))) = mM') (st := []) (st1 := [.int (nI (bc w))]) (As := [.int (nI (w))]) O dX7_spare_89 ul_X7_231 um_X7_bitsOf (f_X7_bitsOf hW (by omega) ⟨rfl, rfl⟩) rfl rfl rfl (by decide) (Nat.le_of_ble_eq_true rfl) rfl (fun mhM_6 hM_6 => ?_)
              subst hM_6
              refine w_iret O dX7_spare_92 ?_
              have e0 : a_spare T (nI j) = (nI (bc w)) := by unfold a_spare; rw [if_pos hr_j, ← ekn]; rw [hq2, if_pos (show nI j = nI 0 by rw [show j = 0 by omega])]; exact congrArg nI hbq
              rw [e0] at hQ
              try dsimp only at hQ
              exact hQ ((va_up m1 (49) (.inr (7, [.ref (gb_ad G 50), .int (nI (T.2.2.2.1)), .ref (gb_ad G 51), .int (x3), .int (x4), .int (x5), .int (x6), .int (x7), .ref (gb_ad G 52), .int (nI (ln)), .int (nI (fa)), .int (x11), .int (x12), .int (x13), .int (x14), .int (x15), .int (x16), .ref (gb_ad G 53), .ref (gb_ad G 54), .int (nI 0), .int (nI 0), .int (oI none), .int (nI (tm)), .ref (gb_ad G 55), .int (nI (sn)), .ref (gb_ad G 56), .int (x26), .ref (gb_ad G 57), .ref (gb_ad G 58), .ref (gb_ad G 59), .ref (gb_ad G 60), .int (nI (tn))])))) ⟨_, _, _, _, _, _, _, _, _, _, _, _, _, _, _, _, _, _, _, _, (va_up_self _ _ _), ((va_up_ne _ _ (by decide)).trans ((hs1 (50) (by omega)).trans h50)), ((va_up_ne _ _ (by decide)).trans ((hs1 (51) (by omega)).trans h51)), ((va_up_ne _ _ (by decide)).trans ((hs1 (52) (by omega)).trans h52)), ((va_up_ne _ _ (by decide)).trans ((hs1 (53) (by omega)).trans h53)), ((va_up_ne _ _ (by decide)).trans ((hs1 (54) (by omega)).trans h54)), ((va_up_ne _ _ (by decide)).trans ((hs1 (55) (by omega)).trans h55)), ((va_up_ne _ _ (by decide)).trans ((hs1 (56) (by omega)).trans h56)), ((va_up_ne _ _ (by decide)).trans ((hs1 (57) (by omega)).trans h57)), ((va_up_ne _ _ (by decide)).trans ((hs1 (58) (by omega)).trans h58)), ((va_up_ne _ _ (by decide)).trans ((hs1 (59) (by omega)).trans h59)), ((va_up_ne _ _ (by decide)).trans ((hs1 (60) (by omega)).trans h60)), htm, hpg, hIm, hSe, hLa, hLe, hCe⟩ ((sm.rf.tr (hs1.mono (by omega) (by omega))).up (by omega) (by omega))
            · skip
              refine w_iload_n (n := 85) O dX7_spare_84 rfl rfl rfl ?_
              refine w_goto (tgt := 92) O dX7_spare_85 (by decide) ?_
              refine w_iret O dX7_spare_92 ?_
              have e0 : a_spare T (nI j) = (nI (w)) := by unfold a_spare; rw [if_pos hr_j, ← ekn]; rw [hq2, if_neg (show ¬ nI j = nI 0 from fun z => by have := (nI_eq (by omega) (by decide)).mp z; omega)]; exact congrArg nI hq3
              rw [e0] at hQ
              try dsimp only at hQ
              exact hQ ((va_up m1 (49) (.inr (7, [.ref (gb_ad G 50), .int (nI (T.2.2.2.1)), .ref (gb_ad G 51), .int (x3), .int (x4), .int (x5), .int (x6), .int (x7), .ref (gb_ad G 52), .int (nI (ln)), .int (nI (fa)), .int (x11), .int (x12), .int (x13), .int (x14), .int (x15), .int (x16), .ref (gb_ad G 53), .ref (gb_ad G 54), .int (nI 0), .int (nI 0), .int (oI none), .int (nI (tm)), .ref (gb_ad G 55), .int (nI (sn)), .ref (gb_ad G 56), .int (x26), .ref (gb_ad G 57), .ref (gb_ad G 58), .ref (gb_ad G 59), .ref (gb_ad G 60), .int (nI (tn))])))) ⟨_, _, _, _, _, _, _, _, _, _, _, _, _, _, _, _, _, _, _, _, (va_up_self _ _ _), ((va_up_ne _ _ (by decide)).trans ((hs1 (50) (by omega)).trans h50)), ((va_up_ne _ _ (by decide)).trans ((hs1 (51) (by omega)).trans h51)), ((va_up_ne _ _ (by decide)).trans ((hs1 (52) (by omega)).trans h52)), ((va_up_ne _ _ (by decide)).trans ((hs1 (53) (by omega)).trans h53)), ((va_up_ne _ _ (by decide)).trans ((hs1 (54) (by omega)).trans h54)), ((va_up_ne _ _ (by decide)).trans ((hs1 (55) (by omega)).trans h55)), ((va_up_ne _ _ (by decide)).trans ((hs1 (56) (by omega)).trans h56)), ((va_up_ne _ _ (by decide)).trans ((hs1 (57) (by omega)).trans h57)), ((va_up_ne _ _ (by decide)).trans ((hs1 (58) (by omega)).trans h58)), ((va_up_ne _ _ (by decide)).trans ((hs1 (59) (by omega)).trans h59)), ((va_up_ne _ _ (by decide)).trans ((hs1 (60) (by omega)).trans h60)), htm, hpg, hIm, hSe, hLa, hLe, hCe⟩ ((sm.rf.tr (hs1.mono (by omega) (by omega))).up (by omega) (by omega))
        · skip
          refine w_aload_n (n := 28) O dX7_spare_27 rfl rfl rfl ?_
          refine w_iload_n (n := 29) O dX7_spare_28 rfl rfl rfl ?_
          refine w_putf (n := 32) (fs' := [.ref (gb_ad G 50), .int (nI (T.2.2.2.1)), .ref (gb_ad G 51), .int (x3), .int (x4), .int (x5), .int (x6), .int (x7), .ref (gb_ad G 52), .int (nI (ln)), .int (nI (fa)), .int (x11), .int (x12), .int (x13), .int (x14), .int (x15), .int (x16), .ref (gb_ad G 53), .ref (gb_ad G 54), .int (nI (ks)), .int (nI 0), .int (oI none), .int (nI (tm)), .ref (gb_ad G 55), .int (nI (sn)), .ref (gb_ad G 56), .int (x26), .ref (gb_ad G 57), .ref (gb_ad G 58), .ref (gb_ad G 59), .ref (gb_ad G 60), .int (nI (tn))]) O 19 dX7_spare_29 (by omega) h491 rfl (by decide) uX7 uf_X7_162 tyX7 tyX7_ok nmX7 rfl rfl rfl (Nat.le_of_ble_eq_true rfl) rfl rfl ?_
          refine w_aload_n (n := 33) O dX7_spare_32 rfl rfl rfl ?_
          refine w_cV (n := 36) (ro := some (.int (bI (pTrue T (mAm T (gGv T ks 0 none tm)) (mWt T (gGv T ks 0 none tm)))))) (R := fun mM' => (va_up m1 (49) (.inr (7, [.ref (gb_ad G 50), .int (nI (T.2.2.2.1)), .ref (gb_ad G 51), .int (x3), .int (x4), .int (x5), .int (x6), .int (x7), .ref (gb_ad G 52), .int (nI (ln)), .int (nI (fa)), .int (x11), .int (x12), .int (x13), .int (x14), .int (x15), .int (x16), .ref (gb_ad G 53), .ref (gb_ad G 54), .int (nI (ks)), .int (nI 0), .int (oI none), .int (nI (tm)), .ref (gb_ad G 55), .int (nI (sn)), .ref (gb_ad G 56), .int (x26), .ref (gb_ad G 57), .ref (gb_ad G 58), .ref (gb_ad G 59), .ref (gb_ad G 60), .int (nI (tn))]))) = mM') (st := []) (st1 := [.int (bI (pTrue T (mAm T (gGv T ks 0 none tm)) (mWt T (gGv T ks 0 none tm))))]) (As := []) (b := 49) O dX7_spare_33 ul_X7_190 um_X7_rings (f_X7_rings (s := s) (T := T) (lo := ks) (li := 0) (to := none) (tm := tm) hW ⟨((va_up_ne _ _ (by decide)).trans ((hs1 (50) (by omega)).trans h50)), hpg, _, _, _, _, _, _, _, _, _, _, _, _, _, _, _, _, (va_up_self _ _ _)⟩ ok (fun k hk => by cases hk) htm (by omega) (by decide)  ⟨rfl, rfl⟩) rfl (by omega) (va_up_self _ _ _) rfl rfl rfl rfl (by decide) (Nat.le_of_ble_eq_true rfl) rfl (fun mhM_7 hM_7 => ?_)
          subst hM_7
          have erv : pTrue T (mAm T (gGv T ks 0 none tm)) (mWt T (gGv T ks 0 none tm)) = offB T ks := by rw [gGv_off]; rfl
          refine w_if_eqB (n := 39) (tgt := 60) O dX7_spare_36 (by decide) rfl (fun c_8 => ?_) (fun c_8 => ?_)
          · skip
            have hnq : ¬ (offB T ks = true ∧ ∀ q, spB T ks = some q → q.1 < bc ks) := fun z => by rw [← erv, c_8] at z; exact absurd z.1 (by decide)
            refine w_iload_n (n := 61) O dX7_spare_60 rfl rfl rfl ?_
            refine w_istore_n (n := 62) (lv' := [(2, .int (oI wo)), (0, .ref (gb_ad G 49)), (1, .int (nI (j))), (3, .int (nI (ks)))]) O dX7_spare_61 rfl (by decide) rfl rfl ?_
            refine w_iincN (n := 65) (lv' := [(3, .int (nI (ks + 1))), (2, .int (oI wo)), (0, .ref (gb_ad G 49)), (1, .int (nI (j)))]) O dX7_spare_62 rfl (by decide) rfl rfl ?_
            refine w_goto (tgt := 17) O dX7_spare_65 (by decide) ?_
            refine w_lv (lv2 := [(0, .ref (gb_ad G 49)), (1, .int (nI (j))), (2, .int (oI wo)), (3, .int (nI (ks + 1)))]) [2, 3, 1, 0] rfl ?_
            exact ih_LS _ (by omega) (ks + 1) wo _ _ rfl (by omega) (by unfold spB; rw [if_neg hnq]; exact hwo) (va_up_self _ _ _) (by omega) ((sm.rf.tr (hs1.mono (by omega) (by omega))).up (by omega) (by omega))
          · skip
            refine w_iload_n (n := 40) O dX7_spare_39 rfl rfl rfl ?_
            refine w_bipush (n := 42) O dX7_spare_40 (v := (-4)) (by decide) rfl ?_
            refine w_icmp_eq (n := 45) (tgt := 56) O dX7_spare_42 (by decide) rfl (fun c_9 => ?_) (fun c_9 => ?_)
            · skip
              have hwn : wo = none := oI_none (fun k hk => by rw [hk] at hwo; cases h9 : spB T ks with | none => (rw [h9] at hwo; cases hwo) | some z => (rw [h9] at hwo; cases hwo; have := hbs z h9; show z.2 < 2 ^ 31; omega)) c_9
              have hlq : ∀ q, spB T ks = some q → q.1 < bc ks := fun q hq => by rw [hq, hwn] at hwo; cases hwo
              refine w_iload_n (n := 57) O dX7_spare_56 rfl rfl rfl ?_
              refine w_goto (tgt := 61) O dX7_spare_57 (by decide) ?_
              refine w_istore_n (n := 62) (lv' := [(2, .int (nI (ks))), (0, .ref (gb_ad G 49)), (1, .int (nI (j))), (3, .int (nI (ks)))]) O dX7_spare_61 rfl (by decide) rfl rfl ?_
              refine w_iincN (n := 65) (lv' := [(3, .int (nI (ks + 1))), (2, .int (nI (ks))), (0, .ref (gb_ad G 49)), (1, .int (nI (j)))]) O dX7_spare_62 rfl (by decide) rfl rfl ?_
              refine w_goto (tgt := 17) O dX7_spare_65 (by decide) ?_
              refine w_lv (lv2 := [(0, .ref (gb_ad G 49)), (1, .int (nI (j))), (2, .int (nI (ks))), (3, .int (nI (ks + 1)))]) [2, 3, 1, 0] rfl ?_
              exact ih_LS _ (by omega) (ks + 1) (some ks) _ _ rfl (by omega) (by unfold spB; rw [if_pos ⟨erv.symm.trans c_8, hlq⟩]; rfl) (va_up_self _ _ _) (by omega) ((sm.rf.tr (hs1.mono (by omega) (by omega))).up (by omega) (by omega))
            · skip
              obtain ⟨w, hws⟩ := oI_some c_9
              rw [show oI wo = nI w by rw [hws]; rfl]
              obtain ⟨q2, hq2, hq3⟩ : ∃ q2, spB T ks = some q2 ∧ q2.2 = w := by rw [hws] at hwo; cases h9 : spB T ks with | none => (rw [h9] at hwo; cases hwo) | some z => (rw [h9] at hwo; exact ⟨z, rfl, by cases hwo; rfl⟩)
              have hw16 := hbs q2 hq2
              have hbq := spB_bc hq2
              have hbw := bc_le w
              have hbk := bc_le ks
              rw [hq3] at hbq
              refine w_iload_n (n := 46) O dX7_spare_45 rfl rfl rfl ?_
              refine w_cS (n := 49) (ro := some (.int (nI (bc ks)))) (R := fun mM' => (va_up m1 (49) (.inr (7, [.ref (gb_ad G 50), .int (nI (T.2.2.2.1)), .ref (gb_ad G 51), .int (x3), .int (x4), .int (x5), .int (x6), .int (x7), .ref (gb_ad G 52), .int (nI (ln)), .int (nI (fa)), .int (x11), .int (x12), .int (x13), .int (x14), .int (x15), .int (x16), .ref (gb_ad G 53), .ref (gb_ad G 54), .int (nI (ks)), .int (nI 0), .int (oI none), .int (nI (tm)), .ref (gb_ad G 55), .int (nI (sn)), .ref (gb_ad G 56), .int (x26), .ref (gb_ad G 57), .ref (gb_ad G 58), .ref (gb_ad G 59), .ref (gb_ad G 60), .int (nI (tn))]))) = mM') (st := []) (st1 := [.int (nI (bc ks))]) (As := [.int (nI (ks))]) O dX7_spare_46 ul_X7_231 um_X7_bitsOf (f_X7_bitsOf hW (by omega) ⟨rfl, rfl⟩) rfl rfl rfl (by decide) (Nat.le_of_ble_eq_true rfl) rfl (fun mhM_10 hM_10 => ?_)
              subst hM_10
              refine w_iload_n (n := 50) O dX7_spare_49 rfl rfl rfl ?_
              refine w_cS (n := 53) (ro := some (.int (nI (bc w)))) (R := fun mM' => (va_up m1 (49) (.inr (7, [.ref (gb_ad G 50), .int (nI (T.2.2.2.1)), .ref (gb_ad G 51), .int (x3), .int (x4), .int (x5), .int (x6), .int (x7), .ref (gb_ad G 52), .int (nI (ln)), .int (nI (fa)), .int (x11), .int (x12), .int (x13), .int (x14), .int (x15), .int (x16), .ref (gb_ad G 53), .ref (gb_ad G 54), .int (nI (ks)), .int (nI 0), .int (oI none), .int (nI (tm)), .ref (gb_ad G 55), .int (nI (sn)), .ref (gb_ad G 56), .int (x26), .ref (gb_ad G 57), .ref (gb_ad G 58), .ref (gb_ad G 59), .ref (gb_ad G 60), .int (nI (tn))]))) = mM') (st := [.int (nI (bc ks))]) (st1 := [.int (nI (bc w)), .int (nI (bc ks))]) (As := [.int (nI (w))]) O dX7_spare_50 ul_X7_231 um_X7_bitsOf (f_X7_bitsOf hW (by omega) ⟨rfl, rfl⟩) rfl rfl rfl (by decide) (Nat.le_of_ble_eq_true rfl) rfl (fun mhM_11 hM_11 => ?_)
              subst hM_11
              refine w_icmp_leN (n := 56) (tgt := 60) O dX7_spare_53 (by omega) (by omega) (by decide) rfl (fun c_12 => ?_) (fun c_12 => ?_)
              · skip
                have hnq : ¬ (offB T ks = true ∧ ∀ q, spB T ks = some q → q.1 < bc ks) := fun z => by have := z.2 q2 hq2; omega
                refine w_iload_n (n := 61) O dX7_spare_60 rfl rfl rfl ?_
                refine w_istore_n (n := 62) (lv' := [(2, .int (nI (w))), (0, .ref (gb_ad G 49)), (1, .int (nI (j))), (3, .int (nI (ks)))]) O dX7_spare_61 rfl (by decide) rfl rfl ?_
                refine w_iincN (n := 65) (lv' := [(3, .int (nI (ks + 1))), (2, .int (nI (w))), (0, .ref (gb_ad G 49)), (1, .int (nI (j)))]) O dX7_spare_62 rfl (by decide) rfl rfl ?_
                refine w_goto (tgt := 17) O dX7_spare_65 (by decide) ?_
                refine w_lv (lv2 := [(0, .ref (gb_ad G 49)), (1, .int (nI (j))), (2, .int (nI (w))), (3, .int (nI (ks + 1)))]) [2, 3, 1, 0] rfl ?_
                exact ih_LS _ (by omega) (ks + 1) (some w) _ _ rfl (by omega) (by unfold spB; rw [if_neg hnq]; exact hws.symm.trans hwo) (va_up_self _ _ _) (by omega) ((sm.rf.tr (hs1.mono (by omega) (by omega))).up (by omega) (by omega))
              · skip
                have hlq : ∀ q, spB T ks = some q → q.1 < bc ks := fun q hq => by rw [hq2] at hq; cases hq; omega
                refine w_iload_n (n := 57) O dX7_spare_56 rfl rfl rfl ?_
                refine w_goto (tgt := 61) O dX7_spare_57 (by decide) ?_
                refine w_istore_n (n := 62) (lv' := [(2, .int (nI (ks))), (0, .ref (gb_ad G 49)), (1, .int (nI (j))), (3, .int (nI (ks)))]) O dX7_spare_61 rfl (by decide) rfl rfl ?_
                refine w_iincN (n := 65) (lv' := [(3, .int (nI (ks + 1))), (2, .int (nI (ks))), (0, .ref (gb_ad G 49)), (1, .int (nI (j)))]) O dX7_spare_62 rfl (by decide) rfl rfl ?_
                refine w_goto (tgt := 17) O dX7_spare_65 (by decide) ?_
                refine w_lv (lv2 := [(0, .ref (gb_ad G 49)), (1, .int (nI (j))), (2, .int (nI (ks))), (3, .int (nI (ks + 1)))]) [2, 3, 1, 0] rfl ?_
                exact ih_LS _ (by omega) (ks + 1) (some ks) _ _ rfl (by omega) (by unfold spB; rw [if_pos ⟨erv.symm.trans c_8, hlq⟩]; rfl) (va_up_self _ _ _) (by omega) ((sm.rf.tr (hs1.mono (by omega) (by omega))).up (by omega) (by omega))
    refine w_lv (lv2 := [(0, .ref (gb_ad G 49)), (1, .int (nI (j))), (2, .int (-4)), (3, .int (nI 0))]) [2, 3, 1, 0] rfl ?_
    exact LS _ 0 none _ 0 rfl (Nat.zero_le _) rfl h49 (by decide) sm.rf
  · skip
    refine w_iconst (n := 11) O dX7_spare_10 (v := (-1)) (by decide) rfl ?_
    refine w_iret O dX7_spare_11 ?_
    have e0 : a_spare T x = -1 := by unfold a_spare; rw [if_neg (by rw [c_2]; decide)]
    rw [e0] at hQ
    try dsimp only at hQ
    exact hQ (mM) ⟨_, _, _, _, _, _, _, _, _, _, _, _, _, _, _, _, _, _, _, _, h49, h50, h51, h52, h53, h54, h55, h56, h57, h58, h59, h60, htm, hpg, hIm, hSe, hLa, hLe, hCe⟩ sm.rf
set_option maxRecDepth 100000 in
set_option maxHeartbeats 4000000 in
theorem f_X7_lasts {G : gb_G} (hW : gW G) {Q : Option Value → gb_M → Prop} {mM : gb_M} {T : Tw} {im : Nat → Tw} {kp : Nat → Bool} {bs : Nat → Nat} {ln fa : Nat} {st sf : Nat → Nat} {sn : Nat} {sh : Sh} {sc : Nat → Nat → Int32} {tn : Nat} (hok : okS T im kp bs ln fa st sf sn sh tn) (hM : isMW G mM T im kp bs ln fa st sf sn sh sc tn)  (hQ : ∀ M', isMW G M' T im kp bs ln fa st sf sn sh sc tn → sm mM M' 49 60 → Q (some (.int (a_lasts T))) M') : Fn G 8 yX7_lasts cX7_lasts 3 (some .int) [.ref (gb_ad G 49)] mM Q := by
  obtain ⟨s, se, le, rp, te, la, ce, tm, x3, x4, x5, x6, x7, x11, x12, x13, x14, x15, x16, x26, h49, h50, h51, h52, h53, h54, h55, h56, h57, h58, h59, h60, htm, hpg, hIm, hSe, hLa, hLe, hCe⟩ := hM
  have ok := hok.1
  have hn4 := ok.1
  have hst9 := hok.2.1
  have hln := hok.2.2.2.1
  have hsn6 := hok.2.2.2.2.2.2.1
  have hN := hW.2.2.1
  refine Fn.of hW.1 [(0, .ref (gb_ad G 49))] (by decide) (Nat.le_of_ble_eq_true rfl) rfl ?_
  intro X O
  refine w_aload_n (n := 1) O dX7_lasts_0 rfl rfl rfl ?_
  refine w_iconst (n := 2) O dX7_lasts_1 (v := (nI 0)) (by decide) rfl ?_
  refine w_bipush (n := 4) O dX7_lasts_2 (v := (nI 120)) (by decide) rfl ?_
  refine w_cV (n := 7) (ro := none) (R := fun mM' => mM' 50 = IA G 150 (pgI (cpS s 0 120)) ∧ sm mM mM' 50 50) (st := []) (st1 := []) (As := [.int (nI 0), .int (nI 120)]) (b := 49) O dX7_lasts_4 ul_X7_224 um_X7_copies (f_X7_copies (s := s) (T := T) (lo := 0) (li := 0) (to := none) (tm := tm) hW ⟨h50, hpg, _, _, _, _, _, _, _, _, _, _, _, _, _, _, _, _, h49⟩ (by omega) (by omega) (by omega) (by omega) (by omega) (fun M' h1 h2 => ⟨rfl, h1, h2⟩)) rfl (by omega) h49 rfl rfl rfl rfl (by decide) (Nat.le_of_ble_eq_true rfl) rfl (fun mhM_1 hM_1 => ?_)
  obtain ⟨hphM_1, hshM_1⟩ := hM_1
  refine w_iconst (n := 8) O dX7_lasts_7 (v := (nI 0)) (by decide) rfl ?_
  refine w_istore_n (n := 9) (lv' := [(1, .int (nI 0)), (0, .ref (gb_ad G 49))]) O dX7_lasts_8 rfl (by decide) rfl rfl ?_
  have LA : ∀ (k : Nat) (t : Nat) (s1 : Nat → Nat) (m1 : gb_M), 500 - t = k → t ≤ 500 → (∀ c, c < t → tTrue (rep tStrike c T) = true) → m1 50 = IA G 150 (pgI s1) → pg0 s1 (rep tStrike t T) → (∀ k2, 30 ≤ k2 → k2 < 150 → s1 k2 = cpS s 0 120 k2) → sm mM m1 50 50 → Wm G X 3 Q 9 [(0, .ref (gb_ad G 49)), (1, .int (nI (t)))] [] m1 := by
    intro k
    induction k using Nat.strongRecOn with
    | ind k ih_LA =>
      intro t s1 m1 hk ht hal h501 hpg1 hag hs1
      have h491 : m1 49 = (.inr (7, [.ref (gb_ad G 50), .int (nI ((rep tStrike t T).2.2.2.1)), .ref (gb_ad G 51), .int (x3), .int (x4), .int (x5), .int (x6), .int (x7), .ref (gb_ad G 52), .int (nI (ln)), .int (nI (fa)), .int (x11), .int (x12), .int (x13), .int (x14), .int (x15), .int (x16), .ref (gb_ad G 53), .ref (gb_ad G 54), .int (nI 0), .int (nI 0), .int (oI none), .int (nI (tm)), .ref (gb_ad G 55), .int (nI (sn)), .ref (gb_ad G 56), .int (x26), .ref (gb_ad G 57), .ref (gb_ad G 58), .ref (gb_ad G 59), .ref (gb_ad G 60), .int (nI (tn))])) := by rw [(rep_sk T t).2]; exact (hs1 49 (by omega)).trans h49
      have okR := okT_rep ok t (by omega)
      have hskR := (rep_sk T t).1
      refine w_aload_n (n := 10) O dX7_lasts_9 rfl rfl rfl ?_
      refine w_cV (n := 13) (ro := some (.int (bI (tTrue ((rep tStrike t T)))))) (R := fun mM' => m1 = mM') (st := []) (st1 := [.int (bI (tTrue ((rep tStrike t T))))]) (As := []) (b := 49) O dX7_lasts_10 ul_X7_190 um_X7_rings (f_X7_rings0 (s := s1) (T := (rep tStrike t T)) (tm := tm) hW ⟨h501, hpg1, _, _, _, _, _, _, _, _, _, _, _, _, _, _, _, _, h491⟩ okR htm  ⟨rfl, rfl⟩) rfl (by omega) h491 rfl rfl rfl rfl (by decide) (Nat.le_of_ble_eq_true rfl) rfl (fun mhM_2 hM_2 => ?_)
      subst hM_2
      refine w_if_eqB (n := 16) (tgt := 33) O dX7_lasts_13 (by decide) rfl (fun c_3 => ?_) (fun c_3 => ?_)
      · skip
        refine w_aload_n (n := 34) O dX7_lasts_33 rfl rfl rfl ?_
        refine w_cV (n := 37) (ro := some (.int (bI (tTrue ((rep tStrike t T)))))) (R := fun mM' => m1 = mM') (st := []) (st1 := [.int (bI (tTrue ((rep tStrike t T))))]) (As := []) (b := 49) O dX7_lasts_34 ul_X7_190 um_X7_rings (f_X7_rings0 (s := s1) (T := (rep tStrike t T)) (tm := tm) hW ⟨h501, hpg1, _, _, _, _, _, _, _, _, _, _, _, _, _, _, _, _, h491⟩ okR htm  ⟨rfl, rfl⟩) rfl (by omega) h491 rfl rfl rfl rfl (by decide) (Nat.le_of_ble_eq_true rfl) rfl (fun mhM_4 hM_4 => ?_)
        subst hM_4
        refine w_if_eqB (n := 40) (tgt := 45) O dX7_lasts_37 (by decide) rfl (fun c_5 => ?_) (fun c_5 => ?_)
        · skip
          refine w_iload_n (n := 46) O dX7_lasts_45 rfl rfl rfl ?_
          refine w_istore_n (n := 47) (lv' := [(2, .int (nI (t))), (0, .ref (gb_ad G 49)), (1, .int (nI (t)))]) O dX7_lasts_46 rfl (by decide) rfl rfl ?_
          refine w_aload_n (n := 48) O dX7_lasts_47 rfl rfl rfl ?_
          refine w_bipush (n := 50) O dX7_lasts_48 (v := (nI 120)) (by decide) rfl ?_
          refine w_iconst (n := 51) O dX7_lasts_50 (v := (nI 0)) (by decide) rfl ?_
          refine w_cV (n := 54) (ro := none) (R := fun mM' => mM' 50 = IA G 150 (pgI (cpS s1 120 0)) ∧ sm m1 mM' 50 50) (st := []) (st1 := []) (As := [.int (nI 120), .int (nI 0)]) (b := 49) O dX7_lasts_51 ul_X7_224 um_X7_copies (f_X7_copies (s := s1) (T := (rep tStrike t T)) (lo := 0) (li := 0) (to := none) (tm := tm) hW ⟨h501, hpg1, _, _, _, _, _, _, _, _, _, _, _, _, _, _, _, _, h491⟩ (by omega) (by omega) (by omega) (by omega) (by omega) (fun M' h1 h2 => ⟨rfl, h1, h2⟩)) rfl (by omega) h491 rfl rfl rfl rfl (by decide) (Nat.le_of_ble_eq_true rfl) rfl (fun mhM_6 hM_6 => ?_)
          obtain ⟨hphM_6, hshM_6⟩ := hM_6
          have hbk := pg_bk hag
          refine w_iload_n (n := 55) O dX7_lasts_54 rfl rfl rfl ?_
          refine w_iret O dX7_lasts_55 ?_
          have h49z : mhM_6 49 = (.inr (7, [.ref (gb_ad G 50), .int (nI (T.2.2.2.1)), .ref (gb_ad G 51), .int (x3), .int (x4), .int (x5), .int (x6), .int (x7), .ref (gb_ad G 52), .int (nI (ln)), .int (nI (fa)), .int (x11), .int (x12), .int (x13), .int (x14), .int (x15), .int (x16), .ref (gb_ad G 53), .ref (gb_ad G 54), .int (nI 0), .int (nI 0), .int (oI none), .int (nI (tm)), .ref (gb_ad G 55), .int (nI (sn)), .ref (gb_ad G 56), .int (x26), .ref (gb_ad G 57), .ref (gb_ad G 58), .ref (gb_ad G 59), .ref (gb_ad G 60), .int (nI (tn))])) := by have z := ((hshM_6 (49) (by omega)).trans h491); rw [(rep_sk T t).2] at z; exact z
          have e0 : a_lasts T = (nI (t)) := by unfold a_lasts; rw [sF_at (v := t) (by show (!tTrue (rep tStrike t T)) = true; rw [c_3]; rfl) (fun c hc => by show (!tTrue (rep tStrike c T)) = false; rw [hal c hc]; rfl) (by omega)]; rfl
          rw [e0] at hQ
          try dsimp only at hQ
          exact hQ (mhM_6) ⟨_, _, _, _, _, _, _, _, _, _, _, _, _, _, _, _, _, _, _, _, h49z, hphM_6, ((hshM_6 (51) (by omega)).trans ((hs1 (51) (by omega)).trans h51)), ((hshM_6 (52) (by omega)).trans ((hs1 (52) (by omega)).trans h52)), ((hshM_6 (53) (by omega)).trans ((hs1 (53) (by omega)).trans h53)), ((hshM_6 (54) (by omega)).trans ((hs1 (54) (by omega)).trans h54)), ((hshM_6 (55) (by omega)).trans ((hs1 (55) (by omega)).trans h55)), ((hshM_6 (56) (by omega)).trans ((hs1 (56) (by omega)).trans h56)), ((hshM_6 (57) (by omega)).trans ((hs1 (57) (by omega)).trans h57)), ((hshM_6 (58) (by omega)).trans ((hs1 (58) (by omega)).trans h58)), ((hshM_6 (59) (by omega)).trans ((hs1 (59) (by omega)).trans h59)), ((hshM_6 (60) (by omega)).trans ((hs1 (60) (by omega)).trans h60)), htm, (pg0_cong hpg (fun k2 hk2 => hbk k2 (by omega))), (imK2 hIm hbk), hSe, hLa, hLe, hCe⟩ ((sm.rf.tr (hs1.mono (by omega) (by omega))).tr (hshM_6.mono (by omega) (by omega)))
        · skip
          refine w_bipush (n := 42) O dX7_lasts_40 (v := (-4)) (by decide) rfl ?_
          refine w_goto (tgt := 46) O dX7_lasts_42 (by decide) ?_
          refine w_istore_n (n := 47) (lv' := [(2, .int (-4)), (0, .ref (gb_ad G 49)), (1, .int (nI (t)))]) O dX7_lasts_46 rfl (by decide) rfl rfl ?_
          refine w_aload_n (n := 48) O dX7_lasts_47 rfl rfl rfl ?_
          refine w_bipush (n := 50) O dX7_lasts_48 (v := (nI 120)) (by decide) rfl ?_
          refine w_iconst (n := 51) O dX7_lasts_50 (v := (nI 0)) (by decide) rfl ?_
          refine w_cV (n := 54) (ro := none) (R := fun mM' => mM' 50 = IA G 150 (pgI (cpS s1 120 0)) ∧ sm m1 mM' 50 50) (st := []) (st1 := []) (As := [.int (nI 120), .int (nI 0)]) (b := 49) O dX7_lasts_51 ul_X7_224 um_X7_copies (f_X7_copies (s := s1) (T := (rep tStrike t T)) (lo := 0) (li := 0) (to := none) (tm := tm) hW ⟨h501, hpg1, _, _, _, _, _, _, _, _, _, _, _, _, _, _, _, _, h491⟩ (by omega) (by omega) (by omega) (by omega) (by omega) (fun M' h1 h2 => ⟨rfl, h1, h2⟩)) rfl (by omega) h491 rfl rfl rfl rfl (by decide) (Nat.le_of_ble_eq_true rfl) rfl (fun mhM_7 hM_7 => ?_)
          obtain ⟨hphM_7, hshM_7⟩ := hM_7
          have hbk := pg_bk hag
          refine w_iload_n (n := 55) O dX7_lasts_54 rfl rfl rfl ?_
          refine w_iret O dX7_lasts_55 ?_
          exact absurd (c_3.symm.trans c_5) (by decide)
      · skip
        refine w_iload_n (n := 17) O dX7_lasts_16 rfl rfl rfl ?_
        refine w_sipush (n := 20) O dX7_lasts_17 (v := (nI 500)) (by decide) rfl ?_
        refine w_icmp_geN (n := 23) (tgt := 33) O dX7_lasts_20 (by omega) (by omega) (by decide) rfl (fun c_8 => ?_) (fun c_8 => ?_)
        · skip
          refine w_aload_n (n := 34) O dX7_lasts_33 rfl rfl rfl ?_
          refine w_cV (n := 37) (ro := some (.int (bI (tTrue ((rep tStrike t T)))))) (R := fun mM' => m1 = mM') (st := []) (st1 := [.int (bI (tTrue ((rep tStrike t T))))]) (As := []) (b := 49) O dX7_lasts_34 ul_X7_190 um_X7_rings (f_X7_rings0 (s := s1) (T := (rep tStrike t T)) (tm := tm) hW ⟨h501, hpg1, _, _, _, _, _, _, _, _, _, _, _, _, _, _, _, _, h491⟩ okR htm  ⟨rfl, rfl⟩) rfl (by omega) h491 rfl rfl rfl rfl (by decide) (Nat.le_of_ble_eq_true rfl) rfl (fun mhM_9 hM_9 => ?_)
          subst hM_9
          refine w_if_eqB (n := 40) (tgt := 45) O dX7_lasts_37 (by decide) rfl (fun c_10 => ?_) (fun c_10 => ?_)
          · skip
            refine w_iload_n (n := 46) O dX7_lasts_45 rfl rfl rfl ?_
            refine w_istore_n (n := 47) (lv' := [(2, .int (nI (t))), (0, .ref (gb_ad G 49)), (1, .int (nI (t)))]) O dX7_lasts_46 rfl (by decide) rfl rfl ?_
            refine w_aload_n (n := 48) O dX7_lasts_47 rfl rfl rfl ?_
            refine w_bipush (n := 50) O dX7_lasts_48 (v := (nI 120)) (by decide) rfl ?_
            refine w_iconst (n := 51) O dX7_lasts_50 (v := (nI 0)) (by decide) rfl ?_
            refine w_cV (n := 54) (ro := none) (R := fun mM' => mM' 50 = IA G 150 (pgI (cpS s1 120 0)) ∧ sm m1 mM' 50 50) (st := []) (st1 := []) (As := [.int (nI 120), .int (nI 0)]) (b := 49) O dX7_lasts_51 ul_X7_224 um_X7_copies (f_X7_copies (s := s1) (T := (rep tStrike t T)) (lo := 0) (li := 0) (to := none) (tm := tm) hW ⟨h501, hpg1, _, _, _, _, _, _, _, _, _, _, _, _, _, _, _, _, h491⟩ (by omega) (by omega) (by omega) (by omega) (by omega) (fun M' h1 h2 => ⟨rfl, h1, h2⟩)) rfl (by omega) h491 rfl rfl rfl rfl (by decide) (Nat.le_of_ble_eq_true rfl) rfl (fun mhM_11 hM_11 => ?_)
            obtain ⟨hphM_11, hshM_11⟩ := hM_11
            have hbk := pg_bk hag
            refine w_iload_n (n := 55) O dX7_lasts_54 rfl rfl rfl ?_
            refine w_iret O dX7_lasts_55 ?_
            exact absurd (c_3.symm.trans c_10) (by decide)
          · skip
            refine w_bipush (n := 42) O dX7_lasts_40 (v := (-4)) (by decide) rfl ?_
            refine w_goto (tgt := 46) O dX7_lasts_42 (by decide) ?_
            refine w_istore_n (n := 47) (lv' := [(2, .int (-4)), (0, .ref (gb_ad G 49)), (1, .int (nI (t)))]) O dX7_lasts_46 rfl (by decide) rfl rfl ?_
            refine w_aload_n (n := 48) O dX7_lasts_47 rfl rfl rfl ?_
            refine w_bipush (n := 50) O dX7_lasts_48 (v := (nI 120)) (by decide) rfl ?_
            refine w_iconst (n := 51) O dX7_lasts_50 (v := (nI 0)) (by decide) rfl ?_
            refine w_cV (n := 54) (ro := none) (R := fun mM' => mM' 50 = IA G 150 (pgI (cpS s1 120 0)) ∧ sm m1 mM' 50 50) (st := []) (st1 := []) (As := [.int (nI 120), .int (nI 0)]) (b := 49) O dX7_lasts_51 ul_X7_224 um_X7_copies (f_X7_copies (s := s1) (T := (rep tStrike t T)) (lo := 0) (li := 0) (to := none) (tm := tm) hW ⟨h501, hpg1, _, _, _, _, _, _, _, _, _, _, _, _, _, _, _, _, h491⟩ (by omega) (by omega) (by omega) (by omega) (by omega) (fun M' h1 h2 => ⟨rfl, h1, h2⟩)) rfl (by omega) h491 rfl rfl rfl rfl (by decide) (Nat.le_of_ble_eq_true rfl) rfl (fun mhM_12 hM_12 => ?_)
            obtain ⟨hphM_12, hshM_12⟩ := hM_12
            have hbk := pg_bk hag
            refine w_iload_n (n := 55) O dX7_lasts_54 rfl rfl rfl ?_
            refine w_iret O dX7_lasts_55 ?_
            have h49z : mhM_12 49 = (.inr (7, [.ref (gb_ad G 50), .int (nI (T.2.2.2.1)), .ref (gb_ad G 51), .int (x3), .int (x4), .int (x5), .int (x6), .int (x7), .ref (gb_ad G 52), .int (nI (ln)), .int (nI (fa)), .int (x11), .int (x12), .int (x13), .int (x14), .int (x15), .int (x16), .ref (gb_ad G 53), .ref (gb_ad G 54), .int (nI 0), .int (nI 0), .int (oI none), .int (nI (tm)), .ref (gb_ad G 55), .int (nI (sn)), .ref (gb_ad G 56), .int (x26), .ref (gb_ad G 57), .ref (gb_ad G 58), .ref (gb_ad G 59), .ref (gb_ad G 60), .int (nI (tn))])) := by have z := ((hshM_12 (49) (by omega)).trans h491); rw [(rep_sk T t).2] at z; exact z
            have e0 : a_lasts T = (-4) := by unfold a_lasts; rw [sF_none (fun c hc => by show (!tTrue (rep tStrike c T)) = false; rcases Nat.lt_or_ge c t with z | z; (rw [hal c z]; rfl); (rw [show c = t by omega, c_3]; rfl))]; rfl
            rw [e0] at hQ
            try dsimp only at hQ
            exact hQ (mhM_12) ⟨_, _, _, _, _, _, _, _, _, _, _, _, _, _, _, _, _, _, _, _, h49z, hphM_12, ((hshM_12 (51) (by omega)).trans ((hs1 (51) (by omega)).trans h51)), ((hshM_12 (52) (by omega)).trans ((hs1 (52) (by omega)).trans h52)), ((hshM_12 (53) (by omega)).trans ((hs1 (53) (by omega)).trans h53)), ((hshM_12 (54) (by omega)).trans ((hs1 (54) (by omega)).trans h54)), ((hshM_12 (55) (by omega)).trans ((hs1 (55) (by omega)).trans h55)), ((hshM_12 (56) (by omega)).trans ((hs1 (56) (by omega)).trans h56)), ((hshM_12 (57) (by omega)).trans ((hs1 (57) (by omega)).trans h57)), ((hshM_12 (58) (by omega)).trans ((hs1 (58) (by omega)).trans h58)), ((hshM_12 (59) (by omega)).trans ((hs1 (59) (by omega)).trans h59)), ((hshM_12 (60) (by omega)).trans ((hs1 (60) (by omega)).trans h60)), htm, (pg0_cong hpg (fun k2 hk2 => hbk k2 (by omega))), (imK2 hIm hbk), hSe, hLa, hLe, hCe⟩ ((sm.rf.tr (hs1.mono (by omega) (by omega))).tr (hshM_12.mono (by omega) (by omega)))
        · skip
          refine w_aload_n (n := 24) O dX7_lasts_23 rfl rfl rfl ?_
          refine w_cV (n := 27) (ro := none) (R := fun mM' => ∃ s', mM' 50 = IA G 150 (pgI s') ∧ pg0 s' (tStrike ((rep tStrike t T))) ∧ (∀ k, 30 ≤ k → s' k = s1 k) ∧ sm m1 mM' 50 50) (st := []) (st1 := []) (As := []) (b := 49) O dX7_lasts_24 ul_X7_221 um_X7_strikes (f_X7_strikes (s := s1) (T := (rep tStrike t T)) (tm := tm) hW ⟨h501, hpg1, _, _, _, _, _, _, _, _, _, _, _, _, _, _, _, _, h491⟩ okR htm (by omega) (fun M' s' h1 h2 h3 h4 => ⟨rfl, s', h1, h2, h3, h4⟩)) rfl (by omega) h491 rfl rfl rfl rfl (by decide) (Nat.le_of_ble_eq_true rfl) rfl (fun mhM_13 hM_13 => ?_)
          obtain ⟨shM_13, hphM_13, hqhM_13, hkhM_13, hshM_13⟩ := hM_13
          refine w_iincN (n := 30) (lv' := [(1, .int (nI (t + 1))), (0, .ref (gb_ad G 49))]) O dX7_lasts_27 rfl (by decide) rfl rfl ?_
          refine w_goto (tgt := 9) O dX7_lasts_30 (by decide) ?_
          refine w_lv (lv2 := [(0, .ref (gb_ad G 49)), (1, .int (nI (t + 1)))]) [1, 0] rfl ?_
          exact ih_LA _ (by omega) (t + 1) _ _ rfl (by omega) (fun c hc => by rcases Nat.lt_or_ge c t with z | z; exact hal c z; rw [show c = t by omega]; exact c_3) hphM_13 (by rw [rep_succ]; exact hqhM_13) (fun k2 h1 h2 => (hkhM_13 k2 h1).trans (hag k2 h1 h2)) ((sm.rf.tr (hs1.mono (by omega) (by omega))).tr (hshM_13.mono (by omega) (by omega)))
  refine w_lv (lv2 := [(0, .ref (gb_ad G 49)), (1, .int (nI 0))]) [1, 0] rfl ?_
  exact LA _ 0 _ _ rfl (by omega) (fun c hc => absurd hc (Nat.not_lt_zero c)) hphM_1 (pg_cp hpg (by omega)) (fun _ _ _ => rfl) (sm.rf.tr (hshM_1.mono (by omega) (by omega)))
set_option maxRecDepth 100000 in
set_option maxHeartbeats 4000000 in
theorem f_X7_swap {G : gb_G} (hW : gW G) {Q : Option Value → gb_M → Prop} {mM : gb_M} {T : Tw} {im : Nat → Tw} {kp : Nat → Bool} {bs : Nat → Nat} {ln fa : Nat} {st sf : Nat → Nat} {sn : Nat} {sh : Sh} {sc : Nat → Nat → Int32} {tn : Nat} (hok : okS T im kp bs ln fa st sf sn sh tn) (hM : isMW G mM T im kp bs ln fa st sf sn sh sc tn)  (hQ : ∀ M', isMW G M' T im kp bs ln fa st sf sn sh sc tn → sm mM M' 49 60 → Q (some (.int (a_swap T))) M') : Fn G 8 yX7_swap cX7_swap 4 (some .int) [.ref (gb_ad G 49)] mM Q := by
  obtain ⟨s, se, le, rp, te, la, ce, tm, x3, x4, x5, x6, x7, x11, x12, x13, x14, x15, x16, x26, h49, h50, h51, h52, h53, h54, h55, h56, h57, h58, h59, h60, htm, hpg, hIm, hSe, hLa, hLe, hCe⟩ := hM
  have ok := hok.1
  have hn4 := ok.1
  have hst9 := hok.2.1
  have hln := hok.2.2.2.1
  have hsn6 := hok.2.2.2.2.2.2.1
  have hN := hW.2.2.1
  refine Fn.of hW.1 [(0, .ref (gb_ad G 49))] (by decide) (Nat.le_of_ble_eq_true rfl) rfl ?_
  intro X O
  refine w_aload_n (n := 1) O dX7_swap_0 rfl rfl rfl ?_
  refine w_cV (n := 4) (ro := some (.int (bI (tTrue T)))) (R := fun mM' => mM = mM') (st := []) (st1 := [.int (bI (tTrue T))]) (As := []) (b := 49) O dX7_swap_1 ul_X7_190 um_X7_rings (f_X7_rings0 (s := s) (T := T) (tm := tm) hW ⟨h50, hpg, _, _, _, _, _, _, _, _, _, _, _, _, _, _, _, _, h49⟩ ok htm  ⟨rfl, rfl⟩) rfl (by omega) h49 rfl rfl rfl rfl (by decide) (Nat.le_of_ble_eq_true rfl) rfl (fun mhM_1 hM_1 => ?_)
  subst hM_1
  refine w_if_eqB (n := 7) (tgt := 10) O dX7_swap_4 (by decide) rfl (fun c_2 => ?_) (fun c_2 => ?_)
  · skip
    refine w_bipush (n := 12) O dX7_swap_10 (v := (-4)) (by decide) rfl ?_
    refine w_istore_n (n := 13) (lv' := [(1, .int (-4)), (0, .ref (gb_ad G 49))]) O dX7_swap_12 rfl (by decide) rfl rfl ?_
    refine w_aload_n (n := 14) O dX7_swap_13 rfl rfl rfl ?_
    refine w_getf (n := 17) O 1 dX7_swap_14 (by omega) h49 rfl (by decide) uX7 uf_X7_136 rfl rfl ?_
    refine w_iconst (n := 18) O dX7_swap_17 (v := (nI 1)) (by decide) rfl ?_
    refine w_isub (n := 19) O dX7_swap_18 rfl ?_
    refine w_istore_n (n := 20) (lv' := [(2, .int (((nI (T.2.2.2.1)) - (nI (1))))), (1, .int (-4)), (0, .ref (gb_ad G 49))]) O dX7_swap_19 rfl (by decide) rfl rfl ?_
    have SO : ∀ (k : Nat) (gk : Nat) (fo : Option Nat) (m1 : gb_M), gk = k → gk ≤ T.2.2.2.1 → dnI (swB T) 40 (10 * gk) fo → m1 50 = IA G 150 (pgI s) → sm mM m1 50 50 → Wm G X 4 Q 20 [(0, .ref (gb_ad G 49)), (1, .int (oI fo)), (2, .int (dI gk))] [] m1 := by
      intro k
      induction k using Nat.strongRecOn with
      | ind k ih_SO =>
        intro gk fo m1 hk hgk hdn h501 hs1
        refine w_iload_n (n := 21) O dX7_swap_20 rfl rfl rfl ?_
        refine w_if_lt (n := 24) (tgt := 78) O dX7_swap_21 (by decide) rfl (fun c_3 => ?_) (fun c_3 => ?_)
        · skip
          have hk0 := dI_lt (by omega) c_3
          subst hk0
          refine w_iload_n (n := 79) O dX7_swap_78 rfl rfl rfl ?_
          refine w_iret O dX7_swap_79 ?_
          have e0 : a_swap T = (oI fo) := by unfold a_swap; rw [if_neg (by rw [c_2]; decide), dn_end (by rw [Nat.mul_zero] at hdn; exact hdn)]
          rw [e0] at hQ
          try dsimp only at hQ
          exact hQ (m1) ⟨_, _, _, _, _, _, _, _, _, _, _, _, _, _, _, _, _, _, _, _, ((hs1 (49) (by omega)).trans h49), h501, ((hs1 (51) (by omega)).trans h51), ((hs1 (52) (by omega)).trans h52), ((hs1 (53) (by omega)).trans h53), ((hs1 (54) (by omega)).trans h54), ((hs1 (55) (by omega)).trans h55), ((hs1 (56) (by omega)).trans h56), ((hs1 (57) (by omega)).trans h57), ((hs1 (58) (by omega)).trans h58), ((hs1 (59) (by omega)).trans h59), ((hs1 (60) (by omega)).trans h60), htm, hpg, hIm, hSe, hLa, hLe, hCe⟩ (sm.rf.tr (hs1.mono (by omega) (by omega)))
        · skip
          obtain ⟨g, rfl⟩ := dI_ge c_3
          rw [dI_s]
          refine w_aload_n (n := 25) O dX7_swap_24 rfl rfl rfl ?_
          refine w_getf (n := 28) O 1 dX7_swap_25 (by omega) ((hs1 (49) (by omega)).trans h49) rfl (by decide) uX7 uf_X7_136 rfl rfl ?_
          refine w_iconst (n := 29) O dX7_swap_28 (v := (nI 1)) (by decide) rfl ?_
          refine w_isubN (n := 30) O dX7_swap_29 (by omega) rfl ?_
          refine w_istore_n (n := 31) (lv' := [(3, .int (nI ((T.2.2.2.1 - 1)))), (0, .ref (gb_ad G 49)), (1, .int (oI fo)), (2, .int (nI (g)))]) O dX7_swap_30 rfl (by decide) rfl rfl ?_
          have SI : ∀ (k : Nat) (h : Nat) (fo2 : Option Nat) (m2 : gb_M), h - g = k → g ≤ h → h < T.2.2.2.1 → dnI (swB T) 40 (10 * g + h + 1) fo2 → m2 50 = IA G 150 (pgI s) → sm mM m2 50 50 → Wm G X 4 Q 31 [(0, .ref (gb_ad G 49)), (1, .int (oI fo2)), (2, .int (nI (g))), (3, .int (nI (h)))] [] m2 := by
            intro k
            induction k using Nat.strongRecOn with
            | ind k ih_SI =>
              intro h fo2 m2 hk hgh hhn hdn2 h502 hs2
              refine w_iload_n (n := 32) O dX7_swap_31 rfl rfl rfl ?_
              refine w_iload_n (n := 33) O dX7_swap_32 rfl rfl rfl ?_
              refine w_icmp_leN (n := 36) (tgt := 72) O dX7_swap_33 (by omega) (by omega) (by decide) rfl (fun c_4 => ?_) (fun c_4 => ?_)
              · skip
                refine w_iinc (n := 75) (lv' := [(2, .int (nI (g) + (-1))), (0, .ref (gb_ad G 49)), (1, .int (oI fo2)), (3, .int (nI (h)))]) O dX7_swap_72 rfl (v := -1) (by decide) (by decide) rfl rfl ?_
                rw [dI_dec]
                refine w_goto (tgt := 20) O dX7_swap_75 (by decide) ?_
                refine w_lv (lv2 := [(0, .ref (gb_ad G 49)), (1, .int (oI fo2)), (2, .int (dI g))]) [1, 2, 0] rfl ?_
                exact ih_SO _ (by omega) g fo2 m2 rfl (by omega) (dn_skip hdn2 (by omega) (fun c h1 h2 => swB_off (by omega))) h502 hs2
              · skip
                refine w_aload_n (n := 37) O dX7_swap_36 rfl rfl rfl ?_
                refine w_iload_n (n := 38) O dX7_swap_37 rfl rfl rfl ?_
                refine w_iload_n (n := 39) O dX7_swap_38 rfl rfl rfl ?_
                refine w_cV (n := 42) (ro := none) (R := fun mM' => mM' 50 = IA G 150 (pgI (chS s T g h)) ∧ pg0 (chS s T g h) (swapT T g h) ∧ sm m2 mM' 50 50) (st := []) (st1 := []) (As := [.int (nI (g)), .int (nI (h))]) (b := 49) O dX7_swap_39 ul_X7_234 um_X7_changes (f_X7_changes (s := s) (T := T) (lo := 0) (li := 0) (to := none) (tm := tm) hW ⟨h502, hpg, _, _, _, _, _, _, _, _, _, _, _, _, _, _, _, _, ((hs2 (49) (by omega)).trans h49)⟩ ok (by omega) (by omega) (fun M' h1 h2 h3 => ⟨rfl, h1, h2, h3⟩)) rfl (by omega) ((hs2 (49) (by omega)).trans h49) rfl rfl rfl rfl (by decide) (Nat.le_of_ble_eq_true rfl) rfl (fun mhM_5 hM_5 => ?_)
                obtain ⟨hphM_5, hqhM_5, hshM_5⟩ := hM_5
                have okw : okT (swapT T g h) := okT_tr (okT_tr ok (by omega) (by omega) (ok.2.1 h (by omega)).2.2.1) (by omega) (by omega) (ok.2.1 g (by omega)).2.2.1
                refine w_aload_n (n := 43) O dX7_swap_42 rfl rfl rfl ?_
                refine w_cV (n := 46) (ro := some (.int (bI (tTrue (swapT T g h))))) (R := fun mM' => mhM_5 = mM') (st := []) (st1 := [.int (bI (tTrue (swapT T g h)))]) (As := []) (b := 49) O dX7_swap_43 ul_X7_190 um_X7_rings (f_X7_rings0 (s := chS s T g h) (T := swapT T g h) (tm := tm) hW ⟨hphM_5, hqhM_5, _, _, _, _, _, _, _, _, _, _, _, _, _, _, _, _, ((hshM_5 (49) (by omega)).trans ((hs2 (49) (by omega)).trans h49))⟩ okw htm  ⟨rfl, rfl⟩) rfl (by omega) ((hshM_5 (49) (by omega)).trans ((hs2 (49) (by omega)).trans h49)) rfl rfl rfl rfl (by decide) (Nat.le_of_ble_eq_true rfl) rfl (fun mhM_6 hM_6 => ?_)
                subst hM_6
                refine w_if_eqB (n := 49) (tgt := 58) O dX7_swap_46 (by decide) rfl (fun c_7 => ?_) (fun c_7 => ?_)
                · skip
                  refine w_iload_n (n := 59) O dX7_swap_58 rfl rfl rfl ?_
                  refine w_istore_n (n := 60) (lv' := [(1, .int (oI fo2)), (0, .ref (gb_ad G 49)), (2, .int (nI (g))), (3, .int (nI (h)))]) O dX7_swap_59 rfl (by decide) rfl rfl ?_
                  refine w_aload_n (n := 61) O dX7_swap_60 rfl rfl rfl ?_
                  refine w_iload_n (n := 62) O dX7_swap_61 rfl rfl rfl ?_
                  refine w_iload_n (n := 63) O dX7_swap_62 rfl rfl rfl ?_
                  refine w_cV (n := 66) (ro := none) (R := fun mM' => mM' 50 = IA G 150 (pgI (chS (chS s T g h) (swapT T g h) g h)) ∧ pg0 (chS (chS s T g h) (swapT T g h) g h) (swapT (swapT T g h) g h) ∧ sm mhM_5 mM' 50 50) (st := []) (st1 := []) (As := [.int (nI (g)), .int (nI (h))]) (b := 49) O dX7_swap_63 ul_X7_234 um_X7_changes (f_X7_changes (s := chS s T g h) (T := swapT T g h) (lo := 0) (li := 0) (to := none) (tm := tm) hW ⟨hphM_5, hqhM_5, _, _, _, _, _, _, _, _, _, _, _, _, _, _, _, _, ((hshM_5 (49) (by omega)).trans ((hs2 (49) (by omega)).trans h49))⟩ okw (by omega) (by omega) (fun M' h1 h2 h3 => ⟨rfl, h1, h2, h3⟩)) rfl (by omega) ((hshM_5 (49) (by omega)).trans ((hs2 (49) (by omega)).trans h49)) rfl rfl rfl rfl (by decide) (Nat.le_of_ble_eq_true rfl) rfl (fun mhM_8 hM_8 => ?_)
                  obtain ⟨hphM_8, hqhM_8, hshM_8⟩ := hM_8
                  have ebk := chS_back hpg (show g < 4 by omega) (show h < 4 by omega) (show ¬ g = h by omega)
                  refine w_iincM (n := 69) (lv' := [(3, .int (nI (h - 1))), (1, .int (oI fo2)), (0, .ref (gb_ad G 49)), (2, .int (nI (g)))]) O dX7_swap_66 rfl (by omega) (by decide) rfl rfl ?_
                  refine w_goto (tgt := 31) O dX7_swap_69 (by decide) ?_
                  refine w_lv (lv2 := [(0, .ref (gb_ad G 49)), (1, .int (oI fo2)), (2, .int (nI (g))), (3, .int (nI (h - 1)))]) [2, 1, 3, 0] rfl ?_
                  exact ih_SI _ (by omega) (h - 1) fo2 _ rfl (by omega) (by omega) (by rw [show 10 * g + (h - 1) + 1 = 10 * g + h by omega]; exact dn_no hdn2 ((swB_at (by omega) (by omega) hhn).trans c_7)) (by rw [← ebk]; exact hphM_8) (((sm.rf.tr (hs2.mono (by omega) (by omega))).tr (hshM_5.mono (by omega) (by omega))).tr (hshM_8.mono (by omega) (by omega)))
                · skip
                  refine w_bipush (n := 51) O dX7_swap_49 (v := (nI 10)) (by decide) rfl ?_
                  refine w_iload_n (n := 52) O dX7_swap_51 rfl rfl rfl ?_
                  refine w_imulN (n := 53) O dX7_swap_52 rfl ?_
                  refine w_iload_n (n := 54) O dX7_swap_53 rfl rfl rfl ?_
                  refine w_iaddN (n := 55) O dX7_swap_54 rfl ?_
                  refine w_goto (tgt := 59) O dX7_swap_55 (by decide) ?_
                  refine w_istore_n (n := 60) (lv' := [(1, .int (nI (((10 * g) + h)))), (0, .ref (gb_ad G 49)), (2, .int (nI (g))), (3, .int (nI (h)))]) O dX7_swap_59 rfl (by decide) rfl rfl ?_
                  refine w_aload_n (n := 61) O dX7_swap_60 rfl rfl rfl ?_
                  refine w_iload_n (n := 62) O dX7_swap_61 rfl rfl rfl ?_
                  refine w_iload_n (n := 63) O dX7_swap_62 rfl rfl rfl ?_
                  refine w_cV (n := 66) (ro := none) (R := fun mM' => mM' 50 = IA G 150 (pgI (chS (chS s T g h) (swapT T g h) g h)) ∧ pg0 (chS (chS s T g h) (swapT T g h) g h) (swapT (swapT T g h) g h) ∧ sm mhM_5 mM' 50 50) (st := []) (st1 := []) (As := [.int (nI (g)), .int (nI (h))]) (b := 49) O dX7_swap_63 ul_X7_234 um_X7_changes (f_X7_changes (s := chS s T g h) (T := swapT T g h) (lo := 0) (li := 0) (to := none) (tm := tm) hW ⟨hphM_5, hqhM_5, _, _, _, _, _, _, _, _, _, _, _, _, _, _, _, _, ((hshM_5 (49) (by omega)).trans ((hs2 (49) (by omega)).trans h49))⟩ okw (by omega) (by omega) (fun M' h1 h2 h3 => ⟨rfl, h1, h2, h3⟩)) rfl (by omega) ((hshM_5 (49) (by omega)).trans ((hs2 (49) (by omega)).trans h49)) rfl rfl rfl rfl (by decide) (Nat.le_of_ble_eq_true rfl) rfl (fun mhM_9 hM_9 => ?_)
                  obtain ⟨hphM_9, hqhM_9, hshM_9⟩ := hM_9
                  have ebk := chS_back hpg (show g < 4 by omega) (show h < 4 by omega) (show ¬ g = h by omega)
                  refine w_iincM (n := 69) (lv' := [(3, .int (nI (h - 1))), (1, .int (nI (((10 * g) + h)))), (0, .ref (gb_ad G 49)), (2, .int (nI (g)))]) O dX7_swap_66 rfl (by omega) (by decide) rfl rfl ?_
                  refine w_goto (tgt := 31) O dX7_swap_69 (by decide) ?_
                  refine w_lv (lv2 := [(0, .ref (gb_ad G 49)), (1, .int (nI (((10 * g) + h)))), (2, .int (nI (g))), (3, .int (nI (h - 1)))]) [2, 1, 3, 0] rfl ?_
                  exact ih_SI _ (by omega) (h - 1) (some ((10 * g) + h)) _ rfl (by omega) (by omega) (by rw [show 10 * g + (h - 1) + 1 = 10 * g + h by omega]; exact dn_yes (fo := fo2) ((swB_at (by omega) (by omega) hhn).trans c_7) (by omega)) (by rw [← ebk]; exact hphM_9) (((sm.rf.tr (hs2.mono (by omega) (by omega))).tr (hshM_5.mono (by omega) (by omega))).tr (hshM_9.mono (by omega) (by omega)))
          refine w_lv (lv2 := [(0, .ref (gb_ad G 49)), (1, .int (oI fo)), (2, .int (nI (g))), (3, .int (nI ((T.2.2.2.1 - 1))))]) [1, 2, 3, 0] rfl ?_
          exact SI _ (T.2.2.2.1 - 1) fo m1 rfl (by omega) (by omega) (dn_skip hdn (by omega) (fun c h1 h2 => swB_off (by omega))) h501 hs1
    refine w_lv (lv2 := [(0, .ref (gb_ad G 49)), (1, .int (-4)), (2, .int (((nI (T.2.2.2.1)) - (nI (1)))))]) [2, 1, 0] rfl ?_
    exact SO _ T.2.2.2.1 none mM rfl (Nat.le_refl _) (dn_skip (dn_0 _ _) (by omega) (fun c h1 h2 => swB_off (by omega))) h50 sm.rf
  · skip
    refine w_bipush (n := 9) O dX7_swap_7 (v := (-2)) (by decide) rfl ?_
    refine w_iret O dX7_swap_9 ?_
    have e0 : a_swap T = -2 := by unfold a_swap; rw [if_pos c_2]
    rw [e0] at hQ
    try dsimp only at hQ
    exact hQ (mM) ⟨_, _, _, _, _, _, _, _, _, _, _, _, _, _, _, _, _, _, _, _, h49, h50, h51, h52, h53, h54, h55, h56, h57, h58, h59, h60, htm, hpg, hIm, hSe, hLa, hLe, hCe⟩ sm.rf
