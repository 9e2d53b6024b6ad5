theorem sFi_no {F : Nat → Bool} {c : Nat} (h : F c = false) : sFirst F (c + 1) = sFirst F c := by
  simp only [sFirst, h]
  by_cases q : (sFirst F c).isSome = true
  · rw [if_pos q]
  · rw [if_neg q]
    cases e : sFirst F c with
    | none => simp
    | some x => rw [e] at q; simp at q
theorem sFi_new {F : Nat → Bool} {c : Nat} (h : F c = true) (h0 : sCnt F c = 0) : sFirst F (c + 1) = some c := by
  have e := sFirst_none (F := F) c
  simp only [sFirst, h]
  rw [if_neg (fun z => by have := e.mp z; omega)]
  simp
theorem sFi_old {F : Nat → Bool} {c : Nat} (h0 : ¬ sCnt F c = 0) : sFirst F (c + 1) = sFirst F c := by
  have e := sFirst_none (F := F) c
  simp only [sFirst]
  rw [if_pos (e.mpr (by omega))]
theorem sLo_0 {F : Nat → Bool} {v : Nat → Nat} : ∀ {c : Nat}, sCnt F c = 0 → sLow F v c = 9 ∧ sHigh F v c = 0
  | 0, _ => ⟨rfl, rfl⟩
  | c + 1, h => by
    simp only [sCnt] at h
    have hf : ¬ F c = true := fun z => by rw [if_pos z] at h; omega
    simp only [sLow, sHigh]
    rw [if_neg hf, if_neg hf]
    exact sLo_0 (by omega)
theorem le_oI2 {b : Nat} {o : Option Nat} (hb : b < 2 ^ 31) (ho : ∀ q, o = some q → q < 2 ^ 31) : nI b ≤ oI o ↔ ∃ q, o = some q ∧ b ≤ q := by
  cases o with
  | none =>
    refine ⟨fun h => ?_, fun ⟨q, h, _⟩ => by cases h⟩
    have h1 := Int32.le_iff_toInt_le.mp h
    rw [nI_toInt hb] at h1
    have e : (oI none).toInt = -4 := by decide
    omega
  | some q =>
    have hq := ho q rfl
    show nI b ≤ nI q ↔ _
    rw [nI_leI hb hq]
    exact ⟨fun h => ⟨q, rfl, h⟩, fun ⟨q2, h, h2⟩ => by cases h; exact h2⟩
theorem d9 {T : Tw} (ok : okT T) (g : Nat) : (fun g => if g < 4 then T.1 (g * 6 + 1) else 0) g ≤ 9 := by
  show (if g < 4 then T.1 (g * 6 + 1) else 0) ≤ 9
  by_cases h : g < 4
  · rw [if_pos h]; exact (ok.2.1 g h).2.1
  · rw [if_neg h]; exact Nat.zero_le _
set_option maxRecDepth 100000 in
set_option maxHeartbeats 4000000 in
theorem f_X7_fits {G : gb_G} (hW : gW G) {Q : Option Value → gb_M → Prop} {mM : gb_M} {T : Tw} {im : Nat → Tw} {kp : Nat → Bool} {bs : Nat → Nat} {ln fa : Nat} {st sf : Nat → Nat} {sn : Nat} {sh : Sh} {sc : Nat → Nat → Int32} {tn : Nat} (hok : okS T im kp bs ln fa st sf sn sh tn) (hM : isMW G mM T im kp bs ln fa st sf sn sh sc tn) {x : Int32}  (hQ : ∀ M', isMW G M' T im kp bs ln fa st sf sn sh sc tn → sm mM M' 49 60 → Q (some (.int (a_fits T st sf sn x))) M') : Fn G 8 yX7_fits cX7_fits 6 (some .int) [.ref (gb_ad G 49), .int (x)] mM Q := by
  obtain ⟨s, se, le, rp, te, la, ce, tm, x3, x4, x5, x6, x7, x11, x12, x13, x14, x15, x16, x26, h49, h50, h51, h52, h53, h54, h55, h56, h57, h58, h59, h60, htm, hpg, hIm, hSe, hLa, hLe, hCe⟩ := hM
  have ok := hok.1
  have hn4 := ok.1
  have hst9 := hok.2.1
  have hln := hok.2.2.2.1
  have hsn6 := hok.2.2.2.2.2.2.1
  have hN := hW.2.2.1
  refine Fn.of hW.1 [(0, .ref (gb_ad G 49)), (1, .int (x))] (by decide) (Nat.le_of_ble_eq_true rfl) rfl ?_
  intro X O
  refine w_iload_n (n := 1) O dX7_fits_0 rfl rfl rfl ?_
  refine w_i2l (n := 2) O dX7_fits_1 rfl ?_
  refine w_lconst (n := 3) O dX7_fits_2 (v := lN 0) (by decide) rfl ?_
  refine w_lconst (n := 4) O dX7_fits_3 (v := lN 1) (by decide) rfl ?_
  refine w_cS (n := 7) (ro := some (.int (bI (wIn (x) (nI 0) (nI 1))))) (R := fun mM' => mM = mM') (st := []) (st1 := [.int (bI (wIn (x) (nI 0) (nI 1)))]) (As := [.long ((x).toInt64), .long (lN 0), .long (lN 1)]) O dX7_fits_4 ul_X7_50 um_X7_in (f_X7_in (x := (x)) (y := (nI 0)) (z := (nI 1)) hW rfl (nI_l (by decide)).symm (nI_l (by decide)).symm ⟨rfl, rfl⟩) rfl rfl rfl (by decide) (Nat.le_of_ble_eq_true rfl) rfl (fun mhM_1 hM_1 => ?_)
  subst hM_1
  refine w_if_neB (n := 10) (tgt := 12) O dX7_fits_7 (by decide) rfl (fun c_2 => ?_) (fun c_2 => ?_)
  · skip
    have hr_j := c_2
    obtain ⟨j, ja, jb, rfl⟩ := wIn_t (by omega) c_2 (by omega)
    have cl_j : (nI j).toNatClampNeg = j := nI_clamp (by omega)
    have hall : allG T ≤ 10000 := Nat.pow_le_pow_right (show 0 < 10 by decide) hn4
    refine w_aload_n (n := 13) O dX7_fits_12 rfl rfl rfl ?_
    refine w_iconst (n := 14) O dX7_fits_13 (v := (nI 0)) (by decide) rfl ?_
    refine w_bipush (n := 16) O dX7_fits_14 (v := (nI 120)) (by decide) rfl ?_
    refine w_cV (n := 19) (ro := none) (R := fun mM' => mM' 50 = IA G 150 (pgI (cpS s 0 120)) ∧ sm mM mM' 50 50) (st := []) (st1 := []) (As := [.int (nI 0), .int (nI 120)]) (b := 49) O dX7_fits_16 ul_X7_224 um_X7_copies (f_X7_copies (s := s) (T := T) (lo := 0) (li := 0) (to := none) (tm := tm) hW ⟨h50, hpg, _, _, _, _, _, _, _, _, _, _, _, _, _, _, _, _, h49⟩ (by omega) (by omega) (by omega) (by omega) (by omega) (fun M' h1 h2 => ⟨rfl, h1, h2⟩)) rfl (by omega) h49 rfl rfl rfl rfl (by decide) (Nat.le_of_ble_eq_true rfl) rfl (fun mhM_3 hM_3 => ?_)
    obtain ⟨hphM_3, hshM_3⟩ := hM_3
    refine w_iconst (n := 20) O dX7_fits_19 (v := (nI 0)) (by decide) rfl ?_
    refine w_istore_n (n := 21) (lv' := [(2, .int (nI 0)), (0, .ref (gb_ad G 49)), (1, .int (nI (j)))]) O dX7_fits_20 rfl (by decide) rfl rfl ?_
    refine w_bipush (n := 23) O dX7_fits_21 (v := (-4)) (by decide) rfl ?_
    refine w_istore_n (n := 24) (lv' := [(3, .int (-4)), (2, .int (nI 0)), (0, .ref (gb_ad G 49)), (1, .int (nI (j)))]) O dX7_fits_23 rfl (by decide) rfl rfl ?_
    refine w_iconst (n := 25) O dX7_fits_24 (v := (nI 0)) (by decide) rfl ?_
    refine w_istore (n := 27) (lv' := [(4, .int (nI 0)), (3, .int (-4)), (2, .int (nI 0)), (0, .ref (gb_ad G 49)), (1, .int (nI (j)))]) O dX7_fits_25 (by decide) rfl rfl ?_
    have FL : ∀ (k : Nat) (cd nn : Nat) (f1 : Option Nat) (dg1 s1 : Nat → Nat) (m1 : gb_M), allG T - cd = k → cd ≤ allG T → nn = sCnt (fitB T st sf sn) cd → f1 = sFirst (fitB T st sf sn) cd → (∀ g, dg1 g ≤ 9) → pg0 s1 (setG T dg1) → m1 50 = IA G 150 (pgI s1) → (∀ k2, 30 ≤ k2 → k2 < 150 → s1 k2 = cpS s 0 120 k2) → sm mM m1 50 50 → Wm G X 6 Q 27 [(0, .ref (gb_ad G 49)), (1, .int (nI (j))), (2, .int (nI (nn))), (3, .int (oI f1)), (4, .int (nI (cd)))] [] m1 := by
      intro k
      induction k using Nat.strongRecOn with
      | ind k ih_FL =>
        intro cd nn f1 dg1 s1 m1 hk hcd hnn hf1 hd9 hpg1 h501 hag hs1
        have hcl := sCnt_le (fitB T st sf sn) cd
        refine w_iload (n := 29) O dX7_fits_27 rfl rfl ?_
        refine w_aload_n (n := 30) O dX7_fits_29 rfl rfl rfl ?_
        refine w_cV (n := 33) (ro := some (.int (nI (allG ((setG T dg1)))))) (R := fun mM' => m1 = mM') (st := [.int (nI (cd))]) (st1 := [.int (nI (allG ((setG T dg1)))), .int (nI (cd))]) (As := []) (b := 49) O dX7_fits_30 ul_X7_247 um_X7_numbers (f_X7_numbers (s := s1) (T := (setG T dg1)) (lo := 0) (li := 0) (to := none) (tm := tm) hW ⟨h501, hpg1, _, _, _, _, _, _, _, _, _, _, _, _, _, _, _, _, ((hs1 (49) (by omega)).trans h49)⟩ (okT_setG ok hd9)  ⟨rfl, rfl⟩) rfl (by omega) ((hs1 (49) (by omega)).trans h49) rfl rfl rfl rfl (by decide) (Nat.le_of_ble_eq_true rfl) rfl (fun mhM_4 hM_4 => ?_)
        subst hM_4
        refine w_top (nI (allG T)) rfl ?_
        refine w_icmp_geN (n := 36) (tgt := 79) O dX7_fits_33 (by omega) (by omega) (by decide) rfl (fun c_5 => ?_) (fun c_5 => ?_)
        · skip
          refine w_aload_n (n := 80) O dX7_fits_79 rfl rfl rfl ?_
          refine w_bipush (n := 82) O dX7_fits_80 (v := (nI 120)) (by decide) rfl ?_
          refine w_iconst (n := 83) O dX7_fits_82 (v := (nI 0)) (by decide) rfl ?_
          refine w_cV (n := 86) (ro := none) (R := fun mM' => mM' 50 = IA G 150 (pgI (cpS s1 120 0)) ∧ sm m1 mM' 50 50) (st := []) (st1 := []) (As := [.int (nI 120), .int (nI 0)]) (b := 49) O dX7_fits_83 ul_X7_224 um_X7_copies (f_X7_copies (s := s1) (T := (setG T dg1)) (lo := 0) (li := 0) (to := none) (tm := tm) hW ⟨h501, hpg1, _, _, _, _, _, _, _, _, _, _, _, _, _, _, _, _, ((hs1 (49) (by omega)).trans h49)⟩ (by omega) (by omega) (by omega) (by omega) (by omega) (fun M' h1 h2 => ⟨rfl, h1, h2⟩)) rfl (by omega) ((hs1 (49) (by omega)).trans h49) rfl rfl rfl rfl (by decide) (Nat.le_of_ble_eq_true rfl) rfl (fun mhM_6 hM_6 => ?_)
          obtain ⟨hphM_6, hshM_6⟩ := hM_6
          have hbk := pg_bk hag
          refine w_iload_n (n := 87) O dX7_fits_86 rfl rfl rfl ?_
          refine w_if_neN (n := 90) (tgt := 94) O dX7_fits_87 (by omega) (by decide) rfl (fun c_7 => ?_) (fun c_7 => ?_)
          · skip
            refine w_iload_n (n := 95) O dX7_fits_94 rfl rfl rfl ?_
            refine w_iret O dX7_fits_95 ?_
            have e0 : a_fits T st sf sn (nI j) = (oI f1) := by unfold a_fits; rw [if_pos hr_j, ← show cd = allG T by omega, ← hnn, ← hf1, if_neg (fun z => c_7 ((nI_eq (by omega) (by decide)).mp z))]
            rw [e0] at hQ
            try dsimp only at hQ
            exact hQ (mhM_6) ⟨_, _, _, _, _, _, _, _, _, _, _, _, _, _, _, _, _, _, _, _, ((hshM_6 (49) (by omega)).trans ((hs1 (49) (by omega)).trans h49)), hphM_6, ((hshM_6 (51) (by omega)).trans ((hs1 (51) (by omega)).trans h51)), ((hshM_6 (52) (by omega)).trans ((hs1 (52) (by omega)).trans h52)), ((hshM_6 (53) (by omega)).trans ((hs1 (53) (by omega)).trans h53)), ((hshM_6 (54) (by omega)).trans ((hs1 (54) (by omega)).trans h54)), ((hshM_6 (55) (by omega)).trans ((hs1 (55) (by omega)).trans h55)), ((hshM_6 (56) (by omega)).trans ((hs1 (56) (by omega)).trans h56)), ((hshM_6 (57) (by omega)).trans ((hs1 (57) (by omega)).trans h57)), ((hshM_6 (58) (by omega)).trans ((hs1 (58) (by omega)).trans h58)), ((hshM_6 (59) (by omega)).trans ((hs1 (59) (by omega)).trans h59)), ((hshM_6 (60) (by omega)).trans ((hs1 (60) (by omega)).trans h60)), htm, (pg0_cong hpg (fun k2 hk2 => hbk k2 (by omega))), (imK2 hIm hbk), hSe, hLa, hLe, hCe⟩ ((sm.rf.tr (hs1.mono (by omega) (by omega))).tr (hshM_6.mono (by omega) (by omega)))
          · skip
            refine w_iload_n (n := 91) O dX7_fits_90 rfl rfl rfl ?_
            refine w_goto (tgt := 95) O dX7_fits_91 (by decide) ?_
            refine w_iret O dX7_fits_95 ?_
            have e0 : a_fits T st sf sn (nI j) = (nI (nn)) := by unfold a_fits; rw [if_pos hr_j, ← show cd = allG T by omega, ← hnn, ← hf1, if_pos (by rw [c_7])]
            rw [e0] at hQ
            try dsimp only at hQ
            exact hQ (mhM_6) ⟨_, _, _, _, _, _, _, _, _, _, _, _, _, _, _, _, _, _, _, _, ((hshM_6 (49) (by omega)).trans ((hs1 (49) (by omega)).trans h49)), hphM_6, ((hshM_6 (51) (by omega)).trans ((hs1 (51) (by omega)).trans h51)), ((hshM_6 (52) (by omega)).trans ((hs1 (52) (by omega)).trans h52)), ((hshM_6 (53) (by omega)).trans ((hs1 (53) (by omega)).trans h53)), ((hshM_6 (54) (by omega)).trans ((hs1 (54) (by omega)).trans h54)), ((hshM_6 (55) (by omega)).trans ((hs1 (55) (by omega)).trans h55)), ((hshM_6 (56) (by omega)).trans ((hs1 (56) (by omega)).trans h56)), ((hshM_6 (57) (by omega)).trans ((hs1 (57) (by omega)).trans h57)), ((hshM_6 (58) (by omega)).trans ((hs1 (58) (by omega)).trans h58)), ((hshM_6 (59) (by omega)).trans ((hs1 (59) (by omega)).trans h59)), ((hshM_6 (60) (by omega)).trans ((hs1 (60) (by omega)).trans h60)), htm, (pg0_cong hpg (fun k2 hk2 => hbk k2 (by omega))), (imK2 hIm hbk), hSe, hLa, hLe, hCe⟩ ((sm.rf.tr (hs1.mono (by omega) (by omega))).tr (hshM_6.mono (by omega) (by omega)))
        · skip
          refine w_aload_n (n := 37) O dX7_fits_36 rfl rfl rfl ?_
          refine w_iload (n := 39) O dX7_fits_37 rfl rfl ?_
          refine w_cV (n := 42) (ro := some (.int (bI (fitB T st sf sn cd)))) (R := fun mM' => ∃ s', mM' 50 = IA G 150 (pgI s') ∧ pg0 s' (setG T (dig T.2.2.2.1 cd)) ∧ (∀ k, 30 ≤ k → s' k = s1 k) ∧ sm m1 mM' 50 50) (st := []) (st1 := [.int (bI (fitB T st sf sn cd))]) (As := [.int (nI (cd))]) (b := 49) O dX7_fits_39 ul_X7_250 um_X7_laysGuilts (f_X7_laysGuilts (s := s1) (T := T) (tm := tm) (dg := dg1) hW ⟨h501, hpg1, ((hs1 (55) (by omega)).trans h55), _, _, _, _, _, _, _, _, _, _, _, _, _, _, _, ((hs1 (49) (by omega)).trans h49)⟩ ok htm hsn6 hok.2.2.2.2.2.2.2.1 hSe (by omega) (fun M' s' h1 h2 h3 h4 => ⟨rfl, s', h1, h2, h3, h4⟩)) rfl (by omega) ((hs1 (49) (by omega)).trans h49) rfl rfl rfl rfl (by omega) (Nat.le_of_ble_eq_true rfl) rfl (fun mhM_8 hM_8 => ?_)
          obtain ⟨shM_8, hphM_8, hqhM_8, hkhM_8, hshM_8⟩ := hM_8
          refine w_istore (n := 44) (lv' := [(5, .int (bI (fitB T st sf sn cd))), (0, .ref (gb_ad G 49)), (1, .int (nI (j))), (2, .int (nI (nn))), (3, .int (oI f1)), (4, .int (nI (cd)))]) O dX7_fits_42 (by decide) rfl rfl ?_
          refine w_iload (n := 46) O dX7_fits_44 rfl rfl ?_
          refine w_if_eqB (n := 49) (tgt := 58) O dX7_fits_46 (by decide) rfl (fun c_9 => ?_) (fun c_9 => ?_)
          · skip
            refine w_iload_n (n := 59) O dX7_fits_58 rfl rfl rfl ?_
            refine w_istore_n (n := 60) (lv' := [(3, .int (oI f1)), (5, .int (bI (fitB T st sf sn cd))), (0, .ref (gb_ad G 49)), (1, .int (nI (j))), (2, .int (nI (nn))), (4, .int (nI (cd)))]) O dX7_fits_59 rfl (by decide) rfl rfl ?_
            refine w_iload_n (n := 61) O dX7_fits_60 rfl rfl rfl ?_
            refine w_iload (n := 63) O dX7_fits_61 rfl rfl ?_
            refine w_if_eqB (n := 66) (tgt := 70) O dX7_fits_63 (by decide) rfl (fun c_10 => ?_) (fun c_10 => absurd (c_9.symm.trans c_10) (by decide))
            refine w_iconst (n := 71) O dX7_fits_70 (v := (nI 0)) (by decide) rfl ?_
            refine w_iaddN (n := 72) O dX7_fits_71 rfl ?_
            refine w_istore_n (n := 73) (lv' := [(2, .int (nI ((nn + 0)))), (3, .int (oI f1)), (5, .int (bI (fitB T st sf sn cd))), (0, .ref (gb_ad G 49)), (1, .int (nI (j))), (4, .int (nI (cd)))]) O dX7_fits_72 rfl (by decide) rfl rfl ?_
            refine w_iincN (n := 76) (lv' := [(4, .int (nI (cd + 1))), (2, .int (nI ((nn + 0)))), (3, .int (oI f1)), (5, .int (bI (fitB T st sf sn cd))), (0, .ref (gb_ad G 49)), (1, .int (nI (j)))]) O dX7_fits_73 rfl (by decide) rfl rfl ?_
            refine w_goto (tgt := 27) O dX7_fits_76 (by decide) ?_
            refine w_lv (lv2 := [(0, .ref (gb_ad G 49)), (1, .int (nI (j))), (2, .int (nI ((nn + 0)))), (3, .int (oI f1)), (4, .int (nI (cd + 1)))]) [4, 5, 1, 2, 0] rfl ?_
            exact ih_FL _ (by omega) (cd + 1) ((nn + 0)) f1 _ _ _ rfl (by omega) (by rw [sCnt, ← hnn, c_9]; rfl) (by rw [sFi_no c_9]; exact hf1) (dig_le T.2.2.2.1 cd) hqhM_8 hphM_8 (fun k2 h1 h2 => (hkhM_8 k2 h1).trans (hag k2 h1 h2)) ((sm.rf.tr (hs1.mono (by omega) (by omega))).tr (hshM_8.mono (by omega) (by omega)))
          · skip
            refine w_iload_n (n := 50) O dX7_fits_49 rfl rfl rfl ?_
            refine w_if_neN (n := 53) (tgt := 58) O dX7_fits_50 (by omega) (by decide) rfl (fun c_11 => ?_) (fun c_11 => ?_)
            · skip
              refine w_iload_n (n := 59) O dX7_fits_58 rfl rfl rfl ?_
              refine w_istore_n (n := 60) (lv' := [(3, .int (oI f1)), (5, .int (bI (fitB T st sf sn cd))), (0, .ref (gb_ad G 49)), (1, .int (nI (j))), (2, .int (nI (nn))), (4, .int (nI (cd)))]) O dX7_fits_59 rfl (by decide) rfl rfl ?_
              refine w_iload_n (n := 61) O dX7_fits_60 rfl rfl rfl ?_
              refine w_iload (n := 63) O dX7_fits_61 rfl rfl ?_
              refine w_if_eqB (n := 66) (tgt := 70) O dX7_fits_63 (by decide) rfl (fun c_12 => absurd (c_9.symm.trans c_12) (by decide)) (fun c_12 => ?_)
              refine w_iconst (n := 67) O dX7_fits_66 (v := (nI 1)) (by decide) rfl ?_
              refine w_goto (tgt := 71) O dX7_fits_67 (by decide) ?_
              refine w_iaddN (n := 72) O dX7_fits_71 rfl ?_
              refine w_istore_n (n := 73) (lv' := [(2, .int (nI ((nn + 1)))), (3, .int (oI f1)), (5, .int (bI (fitB T st sf sn cd))), (0, .ref (gb_ad G 49)), (1, .int (nI (j))), (4, .int (nI (cd)))]) O dX7_fits_72 rfl (by decide) rfl rfl ?_
              refine w_iincN (n := 76) (lv' := [(4, .int (nI (cd + 1))), (2, .int (nI ((nn + 1)))), (3, .int (oI f1)), (5, .int (bI (fitB T st sf sn cd))), (0, .ref (gb_ad G 49)), (1, .int (nI (j)))]) O dX7_fits_73 rfl (by decide) rfl rfl ?_
              refine w_goto (tgt := 27) O dX7_fits_76 (by decide) ?_
              refine w_lv (lv2 := [(0, .ref (gb_ad G 49)), (1, .int (nI (j))), (2, .int (nI ((nn + 1)))), (3, .int (oI f1)), (4, .int (nI (cd + 1)))]) [4, 5, 1, 2, 0] rfl ?_
              exact ih_FL _ (by omega) (cd + 1) ((nn + 1)) f1 _ _ _ rfl (by omega) (by rw [sCnt, ← hnn, c_9]; rfl) (by rw [sFi_old (by omega)]; exact hf1) (dig_le T.2.2.2.1 cd) hqhM_8 hphM_8 (fun k2 h1 h2 => (hkhM_8 k2 h1).trans (hag k2 h1 h2)) ((sm.rf.tr (hs1.mono (by omega) (by omega))).tr (hshM_8.mono (by omega) (by omega)))
            · skip
              refine w_iload (n := 55) O dX7_fits_53 rfl rfl ?_
              refine w_goto (tgt := 59) O dX7_fits_55 (by decide) ?_
              refine w_istore_n (n := 60) (lv' := [(3, .int (nI (cd))), (5, .int (bI (fitB T st sf sn cd))), (0, .ref (gb_ad G 49)), (1, .int (nI (j))), (2, .int (nI (nn))), (4, .int (nI (cd)))]) O dX7_fits_59 rfl (by decide) rfl rfl ?_
              refine w_iload_n (n := 61) O dX7_fits_60 rfl rfl rfl ?_
              refine w_iload (n := 63) O dX7_fits_61 rfl rfl ?_
              refine w_if_eqB (n := 66) (tgt := 70) O dX7_fits_63 (by decide) rfl (fun c_13 => absurd (c_9.symm.trans c_13) (by decide)) (fun c_13 => ?_)
              refine w_iconst (n := 67) O dX7_fits_66 (v := (nI 1)) (by decide) rfl ?_
              refine w_goto (tgt := 71) O dX7_fits_67 (by decide) ?_
              refine w_iaddN (n := 72) O dX7_fits_71 rfl ?_
              refine w_istore_n (n := 73) (lv' := [(2, .int (nI ((nn + 1)))), (3, .int (nI (cd))), (5, .int (bI (fitB T st sf sn cd))), (0, .ref (gb_ad G 49)), (1, .int (nI (j))), (4, .int (nI (cd)))]) O dX7_fits_72 rfl (by decide) rfl rfl ?_
              refine w_iincN (n := 76) (lv' := [(4, .int (nI (cd + 1))), (2, .int (nI ((nn + 1)))), (3, .int (nI (cd))), (5, .int (bI (fitB T st sf sn cd))), (0, .ref (gb_ad G 49)), (1, .int (nI (j)))]) O dX7_fits_73 rfl (by decide) rfl rfl ?_
              refine w_goto (tgt := 27) O dX7_fits_76 (by decide) ?_
              refine w_lv (lv2 := [(0, .ref (gb_ad G 49)), (1, .int (nI (j))), (2, .int (nI ((nn + 1)))), (3, .int (nI (cd))), (4, .int (nI (cd + 1)))]) [4, 5, 1, 2, 0] rfl ?_
              exact ih_FL _ (by omega) (cd + 1) ((nn + 1)) (some cd) _ _ _ rfl (by omega) (by rw [sCnt, ← hnn, c_9]; rfl) (by rw [sFi_new c_9 (by omega)]) (dig_le T.2.2.2.1 cd) hqhM_8 hphM_8 (fun k2 h1 h2 => (hkhM_8 k2 h1).trans (hag k2 h1 h2)) ((sm.rf.tr (hs1.mono (by omega) (by omega))).tr (hshM_8.mono (by omega) (by omega)))
    refine w_lv (lv2 := [(0, .ref (gb_ad G 49)), (1, .int (nI (j))), (2, .int (nI 0)), (3, .int (-4)), (4, .int (nI 0))]) [3, 4, 2, 1, 0] rfl ?_
    exact FL _ 0 0 none (fun g => if g < 4 then T.1 (g * 6 + 1) else 0) _ _ rfl (Nat.zero_le _) rfl rfl (d9 ok) (by rw [setG_self hn4]; exact (pg_cp hpg (by omega))) hphM_3 (fun _ _ _ => rfl) (sm.rf.tr (hshM_3.mono (by omega) (by omega)))
  · skip
    refine w_iconst (n := 11) O dX7_fits_10 (v := (-1)) (by decide) rfl ?_
    refine w_iret O dX7_fits_11 ?_
    have e0 : a_fits T st sf sn x = -1 := by unfold a_fits; rw [if_neg (by rw [c_2]; decide)]
    rw [e0] at hQ
    try dsimp only at hQ
    exact hQ (mM) ⟨_, _, _, _, _, _, _, _, _, _, _, _, _, _, _, _, _, _, _, _, h49, h50, h51, h52, h53, h54, h55, h56, h57, h58, h59, h60, htm, hpg, hIm, hSe, hLa, hLe, hCe⟩ sm.rf
set_option maxRecDepth 100000 in
set_option maxHeartbeats 4000000 in
theorem f_X7_range {G : gb_G} (hW : gW G) {Q : Option Value → gb_M → Prop} {mM : gb_M} {T : Tw} {im : Nat → Tw} {kp : Nat → Bool} {bs : Nat → Nat} {ln fa : Nat} {st sf : Nat → Nat} {sn : Nat} {sh : Sh} {sc : Nat → Nat → Int32} {tn : Nat} (hok : okS T im kp bs ln fa st sf sn sh tn) (hM : isMW G mM T im kp bs ln fa st sf sn sh sc tn) {g x : Int32}  (hQ : ∀ M', isMW G M' T im kp bs ln fa st sf sn sh sc tn → sm mM M' 49 60 → Q (some (.int (a_range T st sf sn g x))) M') : Fn G 8 yX7_range cX7_range 7 (some .int) [.ref (gb_ad G 49), .int (g), .int (x)] mM Q := by
  obtain ⟨s, se, le, rp, te, la, ce, tm, x3, x4, x5, x6, x7, x11, x12, x13, x14, x15, x16, x26, h49, h50, h51, h52, h53, h54, h55, h56, h57, h58, h59, h60, htm, hpg, hIm, hSe, hLa, hLe, hCe⟩ := hM
  have ok := hok.1
  have hn4 := ok.1
  have hst9 := hok.2.1
  have hln := hok.2.2.2.1
  have hsn6 := hok.2.2.2.2.2.2.1
  have hN := hW.2.2.1
  refine Fn.of hW.1 [(0, .ref (gb_ad G 49)), (1, .int (g)), (2, .int (x))] (by decide) (Nat.le_of_ble_eq_true rfl) rfl ?_
  intro X O
  refine w_aload_n (n := 1) O dX7_range_0 rfl rfl rfl ?_
  refine w_iload_n (n := 2) O dX7_range_1 rfl rfl rfl ?_
  refine w_cV (n := 5) (ro := some (.int (bI (isGv (g) T.2.2.2.1)))) (R := fun mM' => mM = mM') (st := []) (st1 := [.int (bI (isGv (g) T.2.2.2.1))]) (As := [.int (g)]) (b := 49) O dX7_range_2 ul_X7_165 um_X7_isGiver (f_X7_isGiver (s := s) (T := T) (lo := 0) (li := 0) (to := none) (tm := tm) hW ⟨h50, hpg, _, _, _, _, _, _, _, _, _, _, _, _, _, _, _, _, h49⟩ ok  ⟨rfl, rfl⟩) rfl (by omega) h49 rfl rfl rfl rfl (by decide) (Nat.le_of_ble_eq_true rfl) rfl (fun mhM_1 hM_1 => ?_)
  subst hM_1
  refine w_if_eqB (n := 8) (tgt := 18) O dX7_range_5 (by decide) rfl (fun c_2 => ?_) (fun c_2 => ?_)
  · skip
    refine w_iconst (n := 19) O dX7_range_18 (v := (-1)) (by decide) rfl ?_
    refine w_iret O dX7_range_19 ?_
    have e0 : a_range T st sf sn g x = -1 := by unfold a_range; rw [if_neg (fun z => by rw [c_2] at z; exact absurd z.1 (by decide))]
    rw [e0] at hQ
    try dsimp only at hQ
    exact hQ (mM) ⟨_, _, _, _, _, _, _, _, _, _, _, _, _, _, _, _, _, _, _, _, h49, h50, h51, h52, h53, h54, h55, h56, h57, h58, h59, h60, htm, hpg, hIm, hSe, hLa, hLe, hCe⟩ sm.rf
  · skip
    have hr_j := c_2
    obtain ⟨j, ja, rfl⟩ := isGv_t (by omega) c_2
    have cl_j : (nI j).toNatClampNeg = j := nI_clamp (by omega)
    refine w_iload_n (n := 9) O dX7_range_8 rfl rfl rfl ?_
    refine w_i2l (n := 10) O dX7_range_9 rfl ?_
    refine w_lconst (n := 11) O dX7_range_10 (v := lN 0) (by decide) rfl ?_
    refine w_lconst (n := 12) O dX7_range_11 (v := lN 1) (by decide) rfl ?_
    refine w_cS (n := 15) (ro := some (.int (bI (wIn (x) (nI 0) (nI 1))))) (R := fun mM' => mM = mM') (st := []) (st1 := [.int (bI (wIn (x) (nI 0) (nI 1)))]) (As := [.long ((x).toInt64), .long (lN 0), .long (lN 1)]) O dX7_range_12 ul_X7_50 um_X7_in (f_X7_in (x := (x)) (y := (nI 0)) (z := (nI 1)) hW rfl (nI_l (by decide)).symm (nI_l (by decide)).symm ⟨rfl, rfl⟩) rfl rfl rfl (by decide) (Nat.le_of_ble_eq_true rfl) rfl (fun mhM_3 hM_3 => ?_)
    subst hM_3
    refine w_if_neB (n := 18) (tgt := 20) O dX7_range_15 (by decide) rfl (fun c_4 => ?_) (fun c_4 => ?_)
    · skip
      have hr_q := c_4
      obtain ⟨q, qa, qb, rfl⟩ := wIn_t (by omega) c_4 (by omega)
      have cl_q : (nI q).toNatClampNeg = q := nI_clamp (by omega)
      have hall : allG T ≤ 10000 := Nat.pow_le_pow_right (show 0 < 10 by decide) hn4
      refine w_aload_n (n := 21) O dX7_range_20 rfl rfl rfl ?_
      refine w_iconst (n := 22) O dX7_range_21 (v := (nI 0)) (by decide) rfl ?_
      refine w_bipush (n := 24) O dX7_range_22 (v := (nI 120)) (by decide) rfl ?_
      refine w_cV (n := 27) (ro := none) (R := fun mM' => mM' 50 = IA G 150 (pgI (cpS s 0 120)) ∧ sm mM mM' 50 50) (st := []) (st1 := []) (As := [.int (nI 0), .int (nI 120)]) (b := 49) O dX7_range_24 ul_X7_224 um_X7_copies (f_X7_copies (s := s) (T := T) (lo := 0) (li := 0) (to := none) (tm := tm) hW ⟨h50, hpg, _, _, _, _, _, _, _, _, _, _, _, _, _, _, _, _, h49⟩ (by omega) (by omega) (by omega) (by omega) (by omega) (fun M' h1 h2 => ⟨rfl, h1, h2⟩)) rfl (by omega) h49 rfl rfl rfl rfl (by decide) (Nat.le_of_ble_eq_true rfl) rfl (fun mhM_5 hM_5 => ?_)
      obtain ⟨hphM_5, hshM_5⟩ := hM_5
      refine w_ldc (n := 29) O dX7_range_27 uc_X7_253 rfl ?_
      refine w_top (nI 1000000) (by decide) ?_
      refine w_istore_n (n := 30) (lv' := [(3, .int (nI 1000000)), (0, .ref (gb_ad G 49)), (1, .int (nI (j))), (2, .int (nI (q)))]) O dX7_range_29 rfl (by decide) rfl rfl ?_
      refine w_bipush (n := 32) O dX7_range_30 (v := (-4)) (by decide) rfl ?_
      refine w_istore (n := 34) (lv' := [(4, .int (-4)), (3, .int (nI 1000000)), (0, .ref (gb_ad G 49)), (1, .int (nI (j))), (2, .int (nI (q)))]) O dX7_range_32 (by decide) rfl rfl ?_
      refine w_iconst (n := 35) O dX7_range_34 (v := (nI 0)) (by decide) rfl ?_
      refine w_istore (n := 37) (lv' := [(5, .int (nI 0)), (4, .int (-4)), (3, .int (nI 1000000)), (0, .ref (gb_ad G 49)), (1, .int (nI (j))), (2, .int (nI (q)))]) O dX7_range_35 (by decide) rfl rfl ?_
      have RL : ∀ (k : Nat) (cd ls : Nat) (mo : Option Nat) (dg1 s1 : Nat → Nat) (m1 : gb_M), allG T - cd = k → cd ≤ allG T → (sCnt (fitB T st sf sn) cd = 0 → ls = 1000000 ∧ mo = none) → (¬ sCnt (fitB T st sf sn) cd = 0 → ls = sLow (fitB T st sf sn) (fun c => dig T.2.2.2.1 c j) cd ∧ mo = some (sHigh (fitB T st sf sn) (fun c => dig T.2.2.2.1 c j) cd)) → (∀ g, dg1 g ≤ 9) → pg0 s1 (setG T dg1) → m1 50 = IA G 150 (pgI s1) → (∀ k2, 30 ≤ k2 → k2 < 150 → s1 k2 = cpS s 0 120 k2) → sm mM m1 50 50 → Wm G X 7 Q 37 [(0, .ref (gb_ad G 49)), (1, .int (nI (j))), (2, .int (nI (q))), (3, .int (nI (ls))), (4, .int (oI mo)), (5, .int (nI (cd)))] [] m1 := by
        intro k
        induction k using Nat.strongRecOn with
        | ind k ih_RL =>
          intro cd ls mo dg1 s1 m1 hk hcd hz hnz hd9 hpg1 h501 hag hs1
          have hlw := sLow_le (F := (fitB T st sf sn)) (v := (fun c => dig T.2.2.2.1 c j)) cd
          have hhw := sHigh_le (F := (fitB T st sf sn)) (v := (fun c => dig T.2.2.2.1 c j)) (fun c => dig_le T.2.2.2.1 c j) cd
          have hls6 : ls ≤ 1000000 := by by_cases z : sCnt (fitB T st sf sn) cd = 0; (rw [(hz z).1]; exact Nat.le_refl _); (rw [(hnz z).1]; omega)
          have hmo9 : ∀ m9, mo = some m9 → m9 ≤ 9 := fun m9 h9 => by by_cases z : sCnt (fitB T st sf sn) cd = 0; (rw [(hz z).2] at h9; cases h9); (rw [(hnz z).2] at h9; cases h9; exact hhw)
          refine w_iload (n := 39) O dX7_range_37 rfl rfl ?_
          refine w_aload_n (n := 40) O dX7_range_39 rfl rfl rfl ?_
          refine w_cV (n := 43) (ro := some (.int (nI (allG ((setG T dg1)))))) (R := fun mM' => m1 = mM') (st := [.int (nI (cd))]) (st1 := [.int (nI (allG ((setG T dg1)))), .int (nI (cd))]) (As := []) (b := 49) O dX7_range_40 ul_X7_247 um_X7_numbers (f_X7_numbers (s := s1) (T := (setG T dg1)) (lo := 0) (li := 0) (to := none) (tm := tm) hW ⟨h501, hpg1, _, _, _, _, _, _, _, _, _, _, _, _, _, _, _, _, ((hs1 (49) (by omega)).trans h49)⟩ (okT_setG ok hd9)  ⟨rfl, rfl⟩) rfl (by omega) ((hs1 (49) (by omega)).trans h49) rfl rfl rfl rfl (by decide) (Nat.le_of_ble_eq_true rfl) rfl (fun mhM_6 hM_6 => ?_)
          subst hM_6
          refine w_top (nI (allG T)) rfl ?_
          refine w_icmp_geN (n := 46) (tgt := 100) O dX7_range_43 (by omega) (by omega) (by decide) rfl (fun c_7 => ?_) (fun c_7 => ?_)
          · skip
            refine w_aload_n (n := 101) O dX7_range_100 rfl rfl rfl ?_
            refine w_bipush (n := 103) O dX7_range_101 (v := (nI 120)) (by decide) rfl ?_
            refine w_iconst (n := 104) O dX7_range_103 (v := (nI 0)) (by decide) rfl ?_
            refine w_cV (n := 107) (ro := none) (R := fun mM' => mM' 50 = IA G 150 (pgI (cpS s1 120 0)) ∧ sm m1 mM' 50 50) (st := []) (st1 := []) (As := [.int (nI 120), .int (nI 0)]) (b := 49) O dX7_range_104 ul_X7_224 um_X7_copies (f_X7_copies (s := s1) (T := (setG T dg1)) (lo := 0) (li := 0) (to := none) (tm := tm) hW ⟨h501, hpg1, _, _, _, _, _, _, _, _, _, _, _, _, _, _, _, _, ((hs1 (49) (by omega)).trans h49)⟩ (by omega) (by omega) (by omega) (by omega) (by omega) (fun M' h1 h2 => ⟨rfl, h1, h2⟩)) rfl (by omega) ((hs1 (49) (by omega)).trans h49) rfl rfl rfl rfl (by decide) (Nat.le_of_ble_eq_true rfl) rfl (fun mhM_8 hM_8 => ?_)
            obtain ⟨hphM_8, hshM_8⟩ := hM_8
            have hbk := pg_bk hag
            refine w_iload (n := 109) O dX7_range_107 rfl rfl ?_
            refine w_bipush (n := 111) O dX7_range_109 (v := (-4)) (by decide) rfl ?_
            refine w_icmp_eq (n := 114) (tgt := 119) O dX7_range_111 (by decide) rfl (fun c_9 => ?_) (fun c_9 => ?_)
            · skip
              refine w_iload (n := 121) O dX7_range_119 rfl rfl ?_
              refine w_goto (tgt := 125) O dX7_range_121 (by decide) ?_
              refine w_iret O dX7_range_125 ?_
              have e0 : a_range T st sf sn (nI j) (nI q) = (oI mo) := by unfold a_range; rw [if_pos ⟨hr_j, hr_q⟩, cl_j, ← show cd = allG T by omega]; rw [if_pos (by by_cases z : sCnt (fitB T st sf sn) cd = 0; exact z; (rw [(hnz z).2] at c_9; exact absurd c_9.symm (nI_neg4 (by omega))))]; exact c_9.symm
              rw [e0] at hQ
              try dsimp only at hQ
              exact hQ (mhM_8) ⟨_, _, _, _, _, _, _, _, _, _, _, _, _, _, _, _, _, _, _, _, ((hshM_8 (49) (by omega)).trans ((hs1 (49) (by omega)).trans h49)), hphM_8, ((hshM_8 (51) (by omega)).trans ((hs1 (51) (by omega)).trans h51)), ((hshM_8 (52) (by omega)).trans ((hs1 (52) (by omega)).trans h52)), ((hshM_8 (53) (by omega)).trans ((hs1 (53) (by omega)).trans h53)), ((hshM_8 (54) (by omega)).trans ((hs1 (54) (by omega)).trans h54)), ((hshM_8 (55) (by omega)).trans ((hs1 (55) (by omega)).trans h55)), ((hshM_8 (56) (by omega)).trans ((hs1 (56) (by omega)).trans h56)), ((hshM_8 (57) (by omega)).trans ((hs1 (57) (by omega)).trans h57)), ((hshM_8 (58) (by omega)).trans ((hs1 (58) (by omega)).trans h58)), ((hshM_8 (59) (by omega)).trans ((hs1 (59) (by omega)).trans h59)), ((hshM_8 (60) (by omega)).trans ((hs1 (60) (by omega)).trans h60)), htm, (pg0_cong hpg (fun k2 hk2 => hbk k2 (by omega))), (imK2 hIm hbk), hSe, hLa, hLe, hCe⟩ ((sm.rf.tr (hs1.mono (by omega) (by omega))).tr (hshM_8.mono (by omega) (by omega)))
            · skip
              refine w_iload_n (n := 115) O dX7_range_114 rfl rfl rfl ?_
              refine w_iconst (n := 116) O dX7_range_115 (v := (nI 1)) (by decide) rfl ?_
              refine w_icmp_neN (n := 119) (tgt := 124) O dX7_range_116 (by omega) (by omega) (by decide) rfl (fun c_10 => ?_) (fun c_10 => ?_)
              · skip
                refine w_iload_n (n := 125) O dX7_range_124 rfl rfl rfl ?_
                refine w_iret O dX7_range_125 ?_
                have e0 : a_range T st sf sn (nI j) (nI q) = (nI (ls)) := by unfold a_range; rw [if_pos ⟨hr_j, hr_q⟩, cl_j, ← show cd = allG T by omega]; rw [if_neg (show ¬ sCnt (fitB T st sf sn) cd = 0 from fun z => c_9 (by rw [(hz z).2]; rfl))]; have h7 := hnz (fun z => c_9 (by rw [(hz z).2]; rfl)); rw [if_pos (by rw [show q = 0 by omega]), ← h7.1]
                rw [e0] at hQ
                try dsimp only at hQ
                exact hQ (mhM_8) ⟨_, _, _, _, _, _, _, _, _, _, _, _, _, _, _, _, _, _, _, _, ((hshM_8 (49) (by omega)).trans ((hs1 (49) (by omega)).trans h49)), hphM_8, ((hshM_8 (51) (by omega)).trans ((hs1 (51) (by omega)).trans h51)), ((hshM_8 (52) (by omega)).trans ((hs1 (52) (by omega)).trans h52)), ((hshM_8 (53) (by omega)).trans ((hs1 (53) (by omega)).trans h53)), ((hshM_8 (54) (by omega)).trans ((hs1 (54) (by omega)).trans h54)), ((hshM_8 (55) (by omega)).trans ((hs1 (55) (by omega)).trans h55)), ((hshM_8 (56) (by omega)).trans ((hs1 (56) (by omega)).trans h56)), ((hshM_8 (57) (by omega)).trans ((hs1 (57) (by omega)).trans h57)), ((hshM_8 (58) (by omega)).trans ((hs1 (58) (by omega)).trans h58)), ((hshM_8 (59) (by omega)).trans ((hs1 (59) (by omega)).trans h59)), ((hshM_8 (60) (by omega)).trans ((hs1 (60) (by omega)).trans h60)), htm, (pg0_cong hpg (fun k2 hk2 => hbk k2 (by omega))), (imK2 hIm hbk), hSe, hLa, hLe, hCe⟩ ((sm.rf.tr (hs1.mono (by omega) (by omega))).tr (hshM_8.mono (by omega) (by omega)))
              · skip
                refine w_iload (n := 121) O dX7_range_119 rfl rfl ?_
                refine w_goto (tgt := 125) O dX7_range_121 (by decide) ?_
                refine w_iret O dX7_range_125 ?_
                have e0 : a_range T st sf sn (nI j) (nI q) = (oI mo) := by unfold a_range; rw [if_pos ⟨hr_j, hr_q⟩, cl_j, ← show cd = allG T by omega]; rw [if_neg (show ¬ sCnt (fitB T st sf sn) cd = 0 from fun z => c_9 (by rw [(hz z).2]; rfl))]; have h7 := hnz (fun z => c_9 (by rw [(hz z).2]; rfl)); rw [if_neg (fun z => by have := (nI_eq (by omega) (by decide)).mp z; omega), h7.2]; rfl
                rw [e0] at hQ
                try dsimp only at hQ
                exact hQ (mhM_8) ⟨_, _, _, _, _, _, _, _, _, _, _, _, _, _, _, _, _, _, _, _, ((hshM_8 (49) (by omega)).trans ((hs1 (49) (by omega)).trans h49)), hphM_8, ((hshM_8 (51) (by omega)).trans ((hs1 (51) (by omega)).trans h51)), ((hshM_8 (52) (by omega)).trans ((hs1 (52) (by omega)).trans h52)), ((hshM_8 (53) (by omega)).trans ((hs1 (53) (by omega)).trans h53)), ((hshM_8 (54) (by omega)).trans ((hs1 (54) (by omega)).trans h54)), ((hshM_8 (55) (by omega)).trans ((hs1 (55) (by omega)).trans h55)), ((hshM_8 (56) (by omega)).trans ((hs1 (56) (by omega)).trans h56)), ((hshM_8 (57) (by omega)).trans ((hs1 (57) (by omega)).trans h57)), ((hshM_8 (58) (by omega)).trans ((hs1 (58) (by omega)).trans h58)), ((hshM_8 (59) (by omega)).trans ((hs1 (59) (by omega)).trans h59)), ((hshM_8 (60) (by omega)).trans ((hs1 (60) (by omega)).trans h60)), htm, (pg0_cong hpg (fun k2 hk2 => hbk k2 (by omega))), (imK2 hIm hbk), hSe, hLa, hLe, hCe⟩ ((sm.rf.tr (hs1.mono (by omega) (by omega))).tr (hshM_8.mono (by omega) (by omega)))
          · skip
            refine w_aload_n (n := 47) O dX7_range_46 rfl rfl rfl ?_
            refine w_iload (n := 49) O dX7_range_47 rfl rfl ?_
            refine w_cV (n := 52) (ro := some (.int (bI (fitB T st sf sn cd)))) (R := fun mM' => ∃ s', mM' 50 = IA G 150 (pgI s') ∧ pg0 s' (setG T (dig T.2.2.2.1 cd)) ∧ (∀ k, 30 ≤ k → s' k = s1 k) ∧ sm m1 mM' 50 50) (st := []) (st1 := [.int (bI (fitB T st sf sn cd))]) (As := [.int (nI (cd))]) (b := 49) O dX7_range_49 ul_X7_250 um_X7_laysGuilts (f_X7_laysGuilts (s := s1) (T := T) (tm := tm) (dg := dg1) hW ⟨h501, hpg1, ((hs1 (55) (by omega)).trans h55), _, _, _, _, _, _, _, _, _, _, _, _, _, _, _, ((hs1 (49) (by omega)).trans h49)⟩ ok htm hsn6 hok.2.2.2.2.2.2.2.1 hSe (by omega) (fun M' s' h1 h2 h3 h4 => ⟨rfl, s', h1, h2, h3, h4⟩)) rfl (by omega) ((hs1 (49) (by omega)).trans h49) rfl rfl rfl rfl (by omega) (Nat.le_of_ble_eq_true rfl) rfl (fun mhM_11 hM_11 => ?_)
            obtain ⟨shM_11, hphM_11, hqhM_11, hkhM_11, hshM_11⟩ := hM_11
            refine w_if_eqB (n := 55) (tgt := 94) O dX7_range_52 (by decide) rfl (fun c_12 => ?_) (fun c_12 => ?_)
            · skip
              refine w_iincN (n := 97) (lv' := [(5, .int (nI (cd + 1))), (0, .ref (gb_ad G 49)), (1, .int (nI (j))), (2, .int (nI (q))), (3, .int (nI (ls))), (4, .int (oI mo))]) O dX7_range_94 rfl (by decide) rfl rfl ?_
              refine w_goto (tgt := 37) O dX7_range_97 (by decide) ?_
              refine w_lv (lv2 := [(0, .ref (gb_ad G 49)), (1, .int (nI (j))), (2, .int (nI (q))), (3, .int (nI (ls))), (4, .int (oI mo)), (5, .int (nI (cd + 1)))]) [1, 2, 3, 4, 5, 0] rfl ?_
              exact ih_RL _ (by omega) (cd + 1) ls mo _ _ _ rfl (by omega) (fun z => by rw [show sCnt (fitB T st sf sn) (cd + 1) = sCnt (fitB T st sf sn) cd by simp only [sCnt, c_12]; rfl] at z; exact hz z) (fun z => by rw [show sCnt (fitB T st sf sn) (cd + 1) = sCnt (fitB T st sf sn) cd by simp only [sCnt, c_12]; rfl] at z; rw [show sLow (fitB T st sf sn) (fun c => dig T.2.2.2.1 c j) (cd + 1) = sLow (fitB T st sf sn) (fun c => dig T.2.2.2.1 c j) cd by simp only [sLow, c_12]; rfl, show sHigh (fitB T st sf sn) (fun c => dig T.2.2.2.1 c j) (cd + 1) = sHigh (fitB T st sf sn) (fun c => dig T.2.2.2.1 c j) cd by simp only [sHigh, c_12]; rfl]; exact hnz z) (dig_le T.2.2.2.1 cd) hqhM_11 hphM_11 (fun k2 h1 h2 => (hkhM_11 k2 h1).trans (hag k2 h1 h2)) ((sm.rf.tr (hs1.mono (by omega) (by omega))).tr (hshM_11.mono (by omega) (by omega)))
            · skip
              refine w_aload_n (n := 56) O dX7_range_55 rfl rfl rfl ?_
              refine w_getf (n := 59) O 0 dX7_range_56 (by omega) ((hshM_11 (49) (by omega)).trans ((hs1 (49) (by omega)).trans h49)) rfl (by decide) uX7 uf_X7_7 rfl rfl ?_
              refine w_iconst (n := 60) O dX7_range_59 (v := (nI 4)) (by decide) rfl ?_
              refine w_iload_n (n := 61) O dX7_range_60 rfl rfl rfl ?_
              refine w_iaddN (n := 62) O dX7_range_61 rfl ?_
              refine w_ialdP (n := 63) (v := (((setG T (dig T.2.2.2.1 cd))).1) (j * 6 + 1)) O dX7_range_62 hW.2.1 (by omega) hphM_11 (by omega) (by decide) (by omega) (hqhM_11.1 j (by omega)).2.1 rfl ?_
              refine w_top (nI (dig T.2.2.2.1 cd j)) (by rw [setG_at (by omega), if_pos ⟨rfl, by omega⟩]) ?_
              have hdv := dig_le T.2.2.2.1 cd j
              refine w_istore (n := 65) (lv' := [(6, .int (nI (dig T.2.2.2.1 cd j))), (0, .ref (gb_ad G 49)), (1, .int (nI (j))), (2, .int (nI (q))), (3, .int (nI (ls))), (4, .int (oI mo)), (5, .int (nI (cd)))]) O dX7_range_63 (by decide) rfl rfl ?_
              refine w_iload (n := 67) O dX7_range_65 rfl rfl ?_
              refine w_iload_n (n := 68) O dX7_range_67 rfl rfl rfl ?_
              refine w_icmp_geN (n := 71) (tgt := 76) O dX7_range_68 (by omega) (by omega) (by decide) rfl (fun c_13 => ?_) (fun c_13 => ?_)
              · skip
                refine w_iload_n (n := 77) O dX7_range_76 rfl rfl rfl ?_
                refine w_istore_n (n := 78) (lv' := [(3, .int (nI (ls))), (6, .int (nI (dig T.2.2.2.1 cd j))), (0, .ref (gb_ad G 49)), (1, .int (nI (j))), (2, .int (nI (q))), (4, .int (oI mo)), (5, .int (nI (cd)))]) O dX7_range_77 rfl (by decide) rfl rfl ?_
                refine w_iload (n := 80) O dX7_range_78 rfl rfl ?_
                refine w_iload (n := 82) O dX7_range_80 rfl rfl ?_
                refine w_icmp_le (n := 85) (tgt := 90) O dX7_range_82 (by decide) rfl (fun c_14 => ?_) (fun c_14 => ?_)
                · skip
                  refine w_iload (n := 92) O dX7_range_90 rfl rfl ?_
                  have hL : sLow (fitB T st sf sn) (fun c => dig T.2.2.2.1 c j) (cd + 1) = min (sLow (fitB T st sf sn) (fun c => dig T.2.2.2.1 c j) cd) (dig T.2.2.2.1 cd j) := by simp only [sLow, c_12, if_true]
                  have hH : sHigh (fitB T st sf sn) (fun c => dig T.2.2.2.1 c j) (cd + 1) = max (sHigh (fitB T st sf sn) (fun c => dig T.2.2.2.1 c j) cd) (dig T.2.2.2.1 cd j) := by simp only [sHigh, c_12, if_true]
                  have hln : ls = sLow (fitB T st sf sn) (fun c => dig T.2.2.2.1 c j) (cd + 1) := by rw [hL]; by_cases z : sCnt (fitB T st sf sn) cd = 0; (have := hz z; have h0 := sLo_0 (v := (fun c => dig T.2.2.2.1 c j)) z; omega); (have := hnz z; omega)
                  have hhn : mo = some (sHigh (fitB T st sf sn) (fun c => dig T.2.2.2.1 c j) (cd + 1)) := by obtain ⟨m9, h9, h8⟩ := (le_oI2 (by omega) (fun m9 h9 => by have := hmo9 m9 h9; omega)).mp c_14; by_cases z : sCnt (fitB T st sf sn) cd = 0; (rw [(hz z).2] at h9; cases h9); (have h7 := (hnz z).2; rw [h7] at h9; cases h9; rw [h7, hH]; congr 1; omega)
                  refine w_istore (n := 94) (lv' := [(4, .int (oI mo)), (3, .int (nI (ls))), (6, .int (nI (dig T.2.2.2.1 cd j))), (0, .ref (gb_ad G 49)), (1, .int (nI (j))), (2, .int (nI (q))), (5, .int (nI (cd)))]) O dX7_range_92 (by decide) rfl rfl ?_
                  refine w_iincN (n := 97) (lv' := [(5, .int (nI (cd + 1))), (4, .int (oI mo)), (3, .int (nI (ls))), (6, .int (nI (dig T.2.2.2.1 cd j))), (0, .ref (gb_ad G 49)), (1, .int (nI (j))), (2, .int (nI (q)))]) O dX7_range_94 rfl (by decide) rfl rfl ?_
                  refine w_goto (tgt := 37) O dX7_range_97 (by decide) ?_
                  refine w_lv (lv2 := [(0, .ref (gb_ad G 49)), (1, .int (nI (j))), (2, .int (nI (q))), (3, .int (nI (ls))), (4, .int (oI mo)), (5, .int (nI (cd + 1)))]) [4, 5, 6, 2, 1, 0] rfl ?_
                  exact ih_RL _ (by omega) (cd + 1) (ls) mo _ _ _ rfl (by omega) (fun z => by simp only [sCnt, c_12, if_true] at z; omega) (fun _ => ⟨hln, hhn⟩) (dig_le T.2.2.2.1 cd) hqhM_11 hphM_11 (fun k2 h1 h2 => (hkhM_11 k2 h1).trans (hag k2 h1 h2)) ((sm.rf.tr (hs1.mono (by omega) (by omega))).tr (hshM_11.mono (by omega) (by omega)))
                · skip
                  refine w_iload (n := 87) O dX7_range_85 rfl rfl ?_
                  refine w_goto (tgt := 92) O dX7_range_87 (by decide) ?_
                  have hL : sLow (fitB T st sf sn) (fun c => dig T.2.2.2.1 c j) (cd + 1) = min (sLow (fitB T st sf sn) (fun c => dig T.2.2.2.1 c j) cd) (dig T.2.2.2.1 cd j) := by simp only [sLow, c_12, if_true]
                  have hH : sHigh (fitB T st sf sn) (fun c => dig T.2.2.2.1 c j) (cd + 1) = max (sHigh (fitB T st sf sn) (fun c => dig T.2.2.2.1 c j) cd) (dig T.2.2.2.1 cd j) := by simp only [sHigh, c_12, if_true]
                  have hln : ls = sLow (fitB T st sf sn) (fun c => dig T.2.2.2.1 c j) (cd + 1) := by rw [hL]; by_cases z : sCnt (fitB T st sf sn) cd = 0; (have := hz z; have h0 := sLo_0 (v := (fun c => dig T.2.2.2.1 c j)) z; omega); (have := hnz z; omega)
                  have hhn : some (dig T.2.2.2.1 cd j) = some (sHigh (fitB T st sf sn) (fun c => dig T.2.2.2.1 c j) (cd + 1)) := by rw [hH]; by_cases z : sCnt (fitB T st sf sn) cd = 0; (have h0 := sLo_0 (v := (fun c => dig T.2.2.2.1 c j)) z; congr 1; omega); (have h7 := (hnz z).2; have h8 : ¬ dig T.2.2.2.1 cd j ≤ sHigh (fitB T st sf sn) (fun c => dig T.2.2.2.1 c j) cd := fun w => c_14 ((le_oI2 (by omega) (fun m9 h9 => by have := hmo9 m9 h9; omega)).mpr ⟨_, h7, w⟩); congr 1; omega)
                  refine w_istore (n := 94) (lv' := [(4, .int (nI (dig T.2.2.2.1 cd j))), (3, .int (nI (ls))), (6, .int (nI (dig T.2.2.2.1 cd j))), (0, .ref (gb_ad G 49)), (1, .int (nI (j))), (2, .int (nI (q))), (5, .int (nI (cd)))]) O dX7_range_92 (by decide) rfl rfl ?_
                  refine w_iincN (n := 97) (lv' := [(5, .int (nI (cd + 1))), (4, .int (nI (dig T.2.2.2.1 cd j))), (3, .int (nI (ls))), (6, .int (nI (dig T.2.2.2.1 cd j))), (0, .ref (gb_ad G 49)), (1, .int (nI (j))), (2, .int (nI (q)))]) O dX7_range_94 rfl (by decide) rfl rfl ?_
                  refine w_goto (tgt := 37) O dX7_range_97 (by decide) ?_
                  refine w_lv (lv2 := [(0, .ref (gb_ad G 49)), (1, .int (nI (j))), (2, .int (nI (q))), (3, .int (nI (ls))), (4, .int (nI (dig T.2.2.2.1 cd j))), (5, .int (nI (cd + 1)))]) [4, 5, 6, 2, 1, 0] rfl ?_
                  exact ih_RL _ (by omega) (cd + 1) (ls) (some (dig T.2.2.2.1 cd j)) _ _ _ rfl (by omega) (fun z => by simp only [sCnt, c_12, if_true] at z; omega) (fun _ => ⟨hln, hhn⟩) (dig_le T.2.2.2.1 cd) hqhM_11 hphM_11 (fun k2 h1 h2 => (hkhM_11 k2 h1).trans (hag k2 h1 h2)) ((sm.rf.tr (hs1.mono (by omega) (by omega))).tr (hshM_11.mono (by omega) (by omega)))
              · skip
                refine w_iload (n := 73) O dX7_range_71 rfl rfl ?_
                refine w_goto (tgt := 77) O dX7_range_73 (by decide) ?_
                refine w_istore_n (n := 78) (lv' := [(3, .int (nI (dig T.2.2.2.1 cd j))), (6, .int (nI (dig T.2.2.2.1 cd j))), (0, .ref (gb_ad G 49)), (1, .int (nI (j))), (2, .int (nI (q))), (4, .int (oI mo)), (5, .int (nI (cd)))]) O dX7_range_77 rfl (by decide) rfl rfl ?_
                refine w_iload (n := 80) O dX7_range_78 rfl rfl ?_
                refine w_iload (n := 82) O dX7_range_80 rfl rfl ?_
                refine w_icmp_le (n := 85) (tgt := 90) O dX7_range_82 (by decide) rfl (fun c_15 => ?_) (fun c_15 => ?_)
                · skip
                  refine w_iload (n := 92) O dX7_range_90 rfl rfl ?_
                  have hL : sLow (fitB T st sf sn) (fun c => dig T.2.2.2.1 c j) (cd + 1) = min (sLow (fitB T st sf sn) (fun c => dig T.2.2.2.1 c j) cd) (dig T.2.2.2.1 cd j) := by simp only [sLow, c_12, if_true]
                  have hH : sHigh (fitB T st sf sn) (fun c => dig T.2.2.2.1 c j) (cd + 1) = max (sHigh (fitB T st sf sn) (fun c => dig T.2.2.2.1 c j) cd) (dig T.2.2.2.1 cd j) := by simp only [sHigh, c_12, if_true]
                  have hln : dig T.2.2.2.1 cd j = sLow (fitB T st sf sn) (fun c => dig T.2.2.2.1 c j) (cd + 1) := by rw [hL]; by_cases z : sCnt (fitB T st sf sn) cd = 0; (have := hz z; have h0 := sLo_0 (v := (fun c => dig T.2.2.2.1 c j)) z; omega); (have := hnz z; omega)
                  have hhn : mo = some (sHigh (fitB T st sf sn) (fun c => dig T.2.2.2.1 c j) (cd + 1)) := by obtain ⟨m9, h9, h8⟩ := (le_oI2 (by omega) (fun m9 h9 => by have := hmo9 m9 h9; omega)).mp c_15; by_cases z : sCnt (fitB T st sf sn) cd = 0; (rw [(hz z).2] at h9; cases h9); (have h7 := (hnz z).2; rw [h7] at h9; cases h9; rw [h7, hH]; congr 1; omega)
                  refine w_istore (n := 94) (lv' := [(4, .int (oI mo)), (3, .int (nI (dig T.2.2.2.1 cd j))), (6, .int (nI (dig T.2.2.2.1 cd j))), (0, .ref (gb_ad G 49)), (1, .int (nI (j))), (2, .int (nI (q))), (5, .int (nI (cd)))]) O dX7_range_92 (by decide) rfl rfl ?_
                  refine w_iincN (n := 97) (lv' := [(5, .int (nI (cd + 1))), (4, .int (oI mo)), (3, .int (nI (dig T.2.2.2.1 cd j))), (6, .int (nI (dig T.2.2.2.1 cd j))), (0, .ref (gb_ad G 49)), (1, .int (nI (j))), (2, .int (nI (q)))]) O dX7_range_94 rfl (by decide) rfl rfl ?_
                  refine w_goto (tgt := 37) O dX7_range_97 (by decide) ?_
                  refine w_lv (lv2 := [(0, .ref (gb_ad G 49)), (1, .int (nI (j))), (2, .int (nI (q))), (3, .int (nI (dig T.2.2.2.1 cd j))), (4, .int (oI mo)), (5, .int (nI (cd + 1)))]) [4, 5, 6, 2, 1, 0] rfl ?_
                  exact ih_RL _ (by omega) (cd + 1) (dig T.2.2.2.1 cd j) mo _ _ _ rfl (by omega) (fun z => by simp only [sCnt, c_12, if_true] at z; omega) (fun _ => ⟨hln, hhn⟩) (dig_le T.2.2.2.1 cd) hqhM_11 hphM_11 (fun k2 h1 h2 => (hkhM_11 k2 h1).trans (hag k2 h1 h2)) ((sm.rf.tr (hs1.mono (by omega) (by omega))).tr (hshM_11.mono (by omega) (by omega)))
                · skip
                  refine w_iload (n := 87) O dX7_range_85 rfl rfl ?_
                  refine w_goto (tgt := 92) O dX7_range_87 (by decide) ?_
                  have hL : sLow (fitB T st sf sn) (fun c => dig T.2.2.2.1 c j) (cd + 1) = min (sLow (fitB T st sf sn) (fun c => dig T.2.2.2.1 c j) cd) (dig T.2.2.2.1 cd j) := by simp only [sLow, c_12, if_true]
                  have hH : sHigh (fitB T st sf sn) (fun c => dig T.2.2.2.1 c j) (cd + 1) = max (sHigh (fitB T st sf sn) (fun c => dig T.2.2.2.1 c j) cd) (dig T.2.2.2.1 cd j) := by simp only [sHigh, c_12, if_true]
                  have hln : dig T.2.2.2.1 cd j = sLow (fitB T st sf sn) (fun c => dig T.2.2.2.1 c j) (cd + 1) := by rw [hL]; by_cases z : sCnt (fitB T st sf sn) cd = 0; (have := hz z; have h0 := sLo_0 (v := (fun c => dig T.2.2.2.1 c j)) z; omega); (have := hnz z; omega)
                  have hhn : some (dig T.2.2.2.1 cd j) = some (sHigh (fitB T st sf sn) (fun c => dig T.2.2.2.1 c j) (cd + 1)) := by rw [hH]; by_cases z : sCnt (fitB T st sf sn) cd = 0; (have h0 := sLo_0 (v := (fun c => dig T.2.2.2.1 c j)) z; congr 1; omega); (have h7 := (hnz z).2; have h8 : ¬ dig T.2.2.2.1 cd j ≤ sHigh (fitB T st sf sn) (fun c => dig T.2.2.2.1 c j) cd := fun w => c_15 ((le_oI2 (by omega) (fun m9 h9 => by have := hmo9 m9 h9; omega)).mpr ⟨_, h7, w⟩); congr 1; omega)
                  refine w_istore (n := 94) (lv' := [(4, .int (nI (dig T.2.2.2.1 cd j))), (3, .int (nI (dig T.2.2.2.1 cd j))), (6, .int (nI (dig T.2.2.2.1 cd j))), (0, .ref (gb_ad G 49)), (1, .int (nI (j))), (2, .int (nI (q))), (5, .int (nI (cd)))]) O dX7_range_92 (by decide) rfl rfl ?_
                  refine w_iincN (n := 97) (lv' := [(5, .int (nI (cd + 1))), (4, .int (nI (dig T.2.2.2.1 cd j))), (3, .int (nI (dig T.2.2.2.1 cd j))), (6, .int (nI (dig T.2.2.2.1 cd j))), (0, .ref (gb_ad G 49)), (1, .int (nI (j))), (2, .int (nI (q)))]) O dX7_range_94 rfl (by decide) rfl rfl ?_
                  refine w_goto (tgt := 37) O dX7_range_97 (by decide) ?_
                  refine w_lv (lv2 := [(0, .ref (gb_ad G 49)), (1, .int (nI (j))), (2, .int (nI (q))), (3, .int (nI (dig T.2.2.2.1 cd j))), (4, .int (nI (dig T.2.2.2.1 cd j))), (5, .int (nI (cd + 1)))]) [4, 5, 6, 2, 1, 0] rfl ?_
                  exact ih_RL _ (by omega) (cd + 1) (dig T.2.2.2.1 cd j) (some (dig T.2.2.2.1 cd j)) _ _ _ rfl (by omega) (fun z => by simp only [sCnt, c_12, if_true] at z; omega) (fun _ => ⟨hln, hhn⟩) (dig_le T.2.2.2.1 cd) hqhM_11 hphM_11 (fun k2 h1 h2 => (hkhM_11 k2 h1).trans (hag k2 h1 h2)) ((sm.rf.tr (hs1.mono (by omega) (by omega))).tr (hshM_11.mono (by omega) (by omega)))
      refine w_lv (lv2 := [(0, .ref (gb_ad G 49)), (1, .int (nI (j))), (2, .int (nI (q))), (3, .int (nI 1000000)), (4, .int (-4)), (5, .int (nI 0))]) [3, 4, 5, 2, 1, 0] rfl ?_
      exact RL _ 0 1000000 none (fun g => if g < 4 then T.1 (g * 6 + 1) else 0) _ _ rfl (Nat.zero_le _) (fun _ => ⟨rfl, rfl⟩) (fun z => absurd rfl z) (d9 ok) (by rw [setG_self hn4]; exact (pg_cp hpg (by omega))) hphM_5 (fun _ _ _ => rfl) (sm.rf.tr (hshM_5.mono (by omega) (by omega)))
    · skip
      refine w_iconst (n := 19) O dX7_range_18 (v := (-1)) (by decide) rfl ?_
      refine w_iret O dX7_range_19 ?_
      have e0 : a_range T st sf sn (nI j) x = -1 := by unfold a_range; rw [if_neg (fun z => by rw [c_4] at z; exact absurd z.2 (by decide))]
      rw [e0] at hQ
      try dsimp only at hQ
      exact hQ (mM) ⟨_, _, _, _, _, _, _, _, _, _, _, _, _, _, _, _, _, _, _, _, h49, h50, h51, h52, h53, h54, h55, h56, h57, h58, h59, h60, htm, hpg, hIm, hSe, hLa, hLe, hCe⟩ sm.rf
