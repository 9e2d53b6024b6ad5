theorem tell_yes {T : Tw} {F : Nat → Bool} {k c : Nat} (h : F c = true) : sCnt (tellC T F k) (c + 1) = sCnt (tellC T F k) c + if tTap (setG T (dig T.2.2.2.1 c)) (k / 10) = k % 10 then 1 else 0 := by
  simp only [sCnt]
  congr 1
  unfold tellC
  rw [h, Bool.true_and]
  by_cases e : tTap (setG T (dig T.2.2.2.1 c)) (k / 10) = k % 10
  · rw [if_pos e, decide_eq_true e]; rfl
  · rw [if_neg e, decide_eq_false e]; rfl
theorem tell_no {T : Tw} {F : Nat → Bool} {k c : Nat} (h : F c = false) : sCnt (tellC T F k) (c + 1) = sCnt (tellC T F k) c := by
  simp only [sCnt]
  unfold tellC
  rw [h, Bool.false_and]
  rfl
theorem tl_step {f : Nat → Nat} {tv tv2 : Nat → Nat} {i : Nat} (h : ∀ k, tv2 k = if k < 10 * i ∧ f (k / 10) = k % 10 then tv k + 1 else tv k) (hx : f i < 10) (k : Nat) : upN tv2 (10 * i + f i) (tv2 (10 * i + f i) + 1) k = if k < 10 * (i + 1) ∧ f (k / 10) = k % 10 then tv k + 1 else tv k := by
  unfold upN
  by_cases e : k = 10 * i + f i
  · subst e
    rw [if_pos rfl, h, if_neg (by omega), if_pos]
    refine ⟨by omega, ?_⟩
    rw [show (10 * i + f i) / 10 = i by omega]
    omega
  · rw [if_neg e, h]
    by_cases q : k < 10 * i
    · simp only [q, true_and, show k < 10 * (i + 1) by omega]
    · rw [if_neg (fun z => q z.1), if_neg]
      intro z
      have h1 : k / 10 = i := by omega
      rw [h1] at z
      omega
theorem nx_in {W : Nat → Nat} {all : Nat} : ∀ {n m ls : Nat}, nxt W all n = (some m, ls) → m < n
  | 0, m, ls, h => by cases h
  | n + 1, m, ls, h => by
    simp only [nxt] at h
    by_cases q : W n < (nxt W all n).2
    · rw [if_pos q] at h; cases h; omega
    · rw [if_neg q] at h; have := nx_in h; omega
set_option maxRecDepth 100000 in
set_option maxHeartbeats 4000000 in
theorem f_X7_next {G : gb_G} (hW : gW G) {Q : Option Value → gb_M → Prop} {mM : gb_M} {T : Tw} {im : Nat → Tw} {kp : Nat → Bool} {bs : Nat → Nat} {ln fa : Nat} {st sf : Nat → Nat} {sn : Nat} {sh : Sh} {sc : Nat → Nat → Int32} {tn : Nat} (hok : okS T im kp bs ln fa st sf sn sh tn) (hM : isMW G mM T im kp bs ln fa st sf sn sh sc tn) {x : Int32}  (hQ : ∀ M', isMW G M' T im kp bs ln fa st sf sn sh sc tn → sm mM M' 49 60 → Q (some (.int (a_next T st sf sn x))) M') : Fn G 8 yX7_next cX7_next 8 (some .int) [.ref (gb_ad G 49), .int (x)] mM Q := by
  obtain ⟨s, se, le, rp, te, la, ce, tm, x3, x4, x5, x6, x7, x11, x12, x13, x14, x15, x16, x26, h49, h50, h51, h52, h53, h54, h55, h56, h57, h58, h59, h60, htm, hpg, hIm, hSe, hLa, hLe, hCe⟩ := hM
  have ok := hok.1
  have hn4 := ok.1
  have hst9 := hok.2.1
  have hln := hok.2.2.2.1
  have hsn6 := hok.2.2.2.2.2.2.1
  have hN := hW.2.2.1
  refine Fn.of hW.1 [(0, .ref (gb_ad G 49)), (1, .int (x))] (by decide) (Nat.le_of_ble_eq_true rfl) rfl ?_
  intro X O
  refine w_iload_n (n := 1) O dX7_next_0 rfl rfl rfl ?_
  refine w_i2l (n := 2) O dX7_next_1 rfl ?_
  refine w_lconst (n := 3) O dX7_next_2 (v := lN 0) (by decide) rfl ?_
  refine w_lconst (n := 4) O dX7_next_3 (v := lN 1) (by decide) rfl ?_
  refine w_cS (n := 7) (ro := some (.int (bI (wIn (x) (nI 0) (nI 1))))) (R := fun mM' => mM = mM') (st := []) (st1 := [.int (bI (wIn (x) (nI 0) (nI 1)))]) (As := [.long ((x).toInt64), .long (lN 0), .long (lN 1)]) O dX7_next_4 ul_X7_50 um_X7_in (f_X7_in (x := (x)) (y := (nI 0)) (z := (nI 1)) hW rfl (nI_l (by decide)).symm (nI_l (by decide)).symm ⟨rfl, rfl⟩) rfl rfl rfl (by decide) (Nat.le_of_ble_eq_true rfl) rfl (fun mhM_1 hM_1 => ?_)
  subst hM_1
  refine w_if_neB (n := 10) (tgt := 12) O dX7_next_7 (by decide) rfl (fun c_2 => ?_) (fun c_2 => ?_)
  · skip
    have hr_j := c_2
    obtain ⟨j, ja, jb, rfl⟩ := wIn_t (by omega) c_2 (by omega)
    have cl_j : (nI j).toNatClampNeg = j := nI_clamp (by omega)
    have hall : allG T ≤ 10000 := Nat.pow_le_pow_right (show 0 < 10 by decide) hn4
    refine w_aload_n (n := 13) O dX7_next_12 rfl rfl rfl ?_
    refine w_iconst (n := 14) O dX7_next_13 (v := (nI 0)) (by decide) rfl ?_
    refine w_bipush (n := 16) O dX7_next_14 (v := (nI 120)) (by decide) rfl ?_
    refine w_cV (n := 19) (ro := none) (R := fun mM' => mM' 50 = IA G 150 (pgI (cpS s 0 120)) ∧ sm mM mM' 50 50) (st := []) (st1 := []) (As := [.int (nI 0), .int (nI 120)]) (b := 49) O dX7_next_16 ul_X7_224 um_X7_copies (f_X7_copies (s := s) (T := T) (lo := 0) (li := 0) (to := none) (tm := tm) hW ⟨h50, hpg, _, _, _, _, _, _, _, _, _, _, _, _, _, _, _, _, h49⟩ (by omega) (by omega) (by omega) (by omega) (by omega) (fun M' h1 h2 => ⟨rfl, h1, h2⟩)) rfl (by omega) h49 rfl rfl rfl rfl (by decide) (Nat.le_of_ble_eq_true rfl) rfl (fun mhM_3 hM_3 => ?_)
    obtain ⟨hphM_3, hshM_3⟩ := hM_3
    refine w_iconst (n := 20) O dX7_next_19 (v := (nI 0)) (by decide) rfl ?_
    refine w_istore_n (n := 21) (lv' := [(2, .int (nI 0)), (0, .ref (gb_ad G 49)), (1, .int (nI (j)))]) O dX7_next_20 rfl (by decide) rfl rfl ?_
    refine w_iconst (n := 22) O dX7_next_21 (v := (nI 0)) (by decide) rfl ?_
    refine w_istore_n (n := 23) (lv' := [(3, .int (nI 0)), (2, .int (nI 0)), (0, .ref (gb_ad G 49)), (1, .int (nI (j)))]) O dX7_next_22 rfl (by decide) rfl rfl ?_
    have N1 : ∀ (k : Nat) (kz : Nat) (te1 : Nat → Int32) (m1 : gb_M), 90 - kz = k → kz ≤ 90 → (∀ k2, k2 < kz → te1 k2 = nI 0) → m1 50 = IA G 150 (pgI (cpS s 0 120)) → m1 56 = IA G 90 te1 → sm2 mM m1 50 50 56 56 → Wm G X 8 Q 23 [(0, .ref (gb_ad G 49)), (1, .int (nI (j))), (2, .int (nI 0)), (3, .int (nI (kz)))] [] m1 := by
      intro k
      induction k using Nat.strongRecOn with
      | ind k ih_N1 =>
        intro kz te1 m1 hk hkz hte h501 h561 hs1
        refine w_iload_n (n := 24) O dX7_next_23 rfl rfl rfl ?_
        refine w_bipush (n := 26) O dX7_next_24 (v := (nI 90)) (by decide) rfl ?_
        refine w_icmp_geN (n := 29) (tgt := 42) O dX7_next_26 (by omega) (by omega) (by decide) rfl (fun c_4 => ?_) (fun c_4 => ?_)
        · skip
          have ekz : kz = 90 := by omega
          subst ekz
          refine Wm.cells (arr_same (a := 56) (z := 90) (cA := gI G) (r := te1) (fun k2 => nI ((fun _ => 0) k2)) h561 (fun j2 hj2 => hte j2 hj2)) ?_
          refine w_iconst (n := 43) O dX7_next_42 (v := (nI 0)) (by decide) rfl ?_
          refine w_istore_n (n := 44) (lv' := [(3, .int (nI 0)), (0, .ref (gb_ad G 49)), (1, .int (nI (j))), (2, .int (nI 0))]) O dX7_next_43 rfl (by decide) rfl rfl ?_
          have N2 : ∀ (k : Nat) (cd al1 : Nat) (tv : Nat → Nat) (dg1 s1 : Nat → Nat) (m1 : gb_M), allG T - cd = k → cd ≤ allG T → al1 = sCnt (fitB T st sf sn) cd → (∀ k2, k2 < 90 → tv k2 = sCnt (tellC T (fitB T st sf sn) k2) cd) → (∀ g, dg1 g ≤ 9) → pg0 s1 (setG T dg1) → m1 50 = IA G 150 (pgI s1) → (∀ k2, 30 ≤ k2 → k2 < 150 → s1 k2 = cpS s 0 120 k2) → m1 56 = IN G 90 tv → sm2 mM m1 50 50 56 56 → Wm G X 8 Q 44 [(0, .ref (gb_ad G 49)), (1, .int (nI (j))), (2, .int (nI (al1))), (3, .int (nI (cd)))] [] m1 := by
            intro k
            induction k using Nat.strongRecOn with
            | ind k ih_N2 =>
              intro cd al1 tv dg1 s1 m1 hk hcd hal1 htv hd9 hpg1 h501 hag h561 hs1
              have hcl := sCnt_le (fitB T st sf sn) cd
              refine w_iload_n (n := 45) O dX7_next_44 rfl rfl rfl ?_
              refine w_aload_n (n := 46) O dX7_next_45 rfl rfl rfl ?_
              refine w_cV (n := 49) (ro := some (.int (nI (allG ((setG T dg1)))))) (R := fun mM' => m1 = mM') (st := [.int (nI (cd))]) (st1 := [.int (nI (allG ((setG T dg1)))), .int (nI (cd))]) (As := []) (b := 49) O dX7_next_46 ul_X7_247 um_X7_numbers (f_X7_numbers (s := s1) (T := (setG T dg1)) (lo := 0) (li := 0) (to := none) (tm := tm) hW ⟨h501, hpg1, _, _, _, _, _, _, _, _, _, _, _, _, _, _, _, _, ((hs1 (49) (by omega) (by omega)).trans h49)⟩ (okT_setG ok hd9)  ⟨rfl, rfl⟩) rfl (by omega) ((hs1 (49) (by omega) (by omega)).trans h49) rfl rfl rfl rfl (by decide) (Nat.le_of_ble_eq_true rfl) rfl (fun mhM_5 hM_5 => ?_)
              subst hM_5
              refine w_top (nI (allG T)) rfl ?_
              refine w_icmp_geN (n := 52) (tgt := 106) O dX7_next_49 (by omega) (by omega) (by decide) rfl (fun c_6 => ?_) (fun c_6 => ?_)
              · skip
                have ecd : cd = allG T := by omega
                have htl : ∀ k2, k2 < 90 → tv k2 ≤ 10000 := fun k2 hk2 => by rw [htv k2 hk2]; have := sCnt_le (tellC T (fitB T st sf sn) k2) cd; omega
                refine w_aload_n (n := 107) O dX7_next_106 rfl rfl rfl ?_
                refine w_bipush (n := 109) O dX7_next_107 (v := (nI 120)) (by decide) rfl ?_
                refine w_iconst (n := 110) O dX7_next_109 (v := (nI 0)) (by decide) rfl ?_
                refine w_cV (n := 113) (ro := none) (R := fun mM' => mM' 50 = IA G 150 (pgI (cpS s1 120 0)) ∧ sm m1 mM' 50 50) (st := []) (st1 := []) (As := [.int (nI 120), .int (nI 0)]) (b := 49) O dX7_next_110 ul_X7_224 um_X7_copies (f_X7_copies (s := s1) (T := (setG T dg1)) (lo := 0) (li := 0) (to := none) (tm := tm) hW ⟨h501, hpg1, _, _, _, _, _, _, _, _, _, _, _, _, _, _, _, _, ((hs1 (49) (by omega) (by omega)).trans h49)⟩ (by omega) (by omega) (by omega) (by omega) (by omega) (fun M' h1 h2 => ⟨rfl, h1, h2⟩)) rfl (by omega) ((hs1 (49) (by omega) (by omega)).trans h49) rfl rfl rfl rfl (by decide) (Nat.le_of_ble_eq_true rfl) rfl (fun mhM_7 hM_7 => ?_)
                obtain ⟨hphM_7, hshM_7⟩ := hM_7
                have hbk := pg_bk hag
                refine w_iload_n (n := 114) O dX7_next_113 rfl rfl rfl ?_
                refine w_istore_n (n := 115) (lv' := [(3, .int (nI (al1))), (0, .ref (gb_ad G 49)), (1, .int (nI (j))), (2, .int (nI (al1)))]) O dX7_next_114 rfl (by decide) rfl rfl ?_
                refine w_bipush (n := 117) O dX7_next_115 (v := (-4)) (by decide) rfl ?_
                refine w_istore (n := 119) (lv' := [(4, .int (-4)), (3, .int (nI (al1))), (0, .ref (gb_ad G 49)), (1, .int (nI (j))), (2, .int (nI (al1)))]) O dX7_next_117 (by decide) rfl rfl ?_
                refine w_iconst (n := 120) O dX7_next_119 (v := (nI 0)) (by decide) rfl ?_
                refine w_istore (n := 122) (lv' := [(5, .int (nI 0)), (4, .int (-4)), (3, .int (nI (al1))), (0, .ref (gb_ad G 49)), (1, .int (nI (j))), (2, .int (nI (al1)))]) O dX7_next_120 (by decide) rfl rfl ?_
                have N4 : ∀ (k : Nat) (i ls : Nat) (wh : Option Nat), 9 - i = k → i ≤ 9 → (wh, ls) = nxt (wrst T st sf sn) al1 i → ls ≤ 10000 → Wm G X 8 Q 122 [(0, .ref (gb_ad G 49)), (1, .int (nI (j))), (3, .int (nI (ls))), (4, .int (oI wh)), (5, .int (nI (i)))] [] mhM_7 := by
                  intro k
                  induction k using Nat.strongRecOn with
                  | ind k ih_N4 =>
                    intro i ls wh hk hi9 hnx hls
                    refine w_iload (n := 124) O dX7_next_122 rfl rfl ?_
                    refine w_bipush (n := 126) O dX7_next_124 (v := (nI 9)) (by decide) rfl ?_
                    refine w_icmp_geN (n := 129) (tgt := 220) O dX7_next_126 (by omega) (by omega) (by decide) rfl (fun c_8 => ?_) (fun c_8 => ?_)
                    · skip
                      have hfin : nxt (wrst T st sf sn) (sCnt (fitB T st sf sn) (allG T)) 9 = (wh, ls) := by rw [← ecd, ← hal1, hnx, show i = 9 by omega]
                      refine w_iload (n := 222) O dX7_next_220 rfl rfl ?_
                      refine w_bipush (n := 224) O dX7_next_222 (v := (-4)) (by decide) rfl ?_
                      refine w_icmp_eq (n := 227) (tgt := 231) O dX7_next_224 (by decide) rfl (fun c_9 => ?_) (fun c_9 => ?_)
                      · skip
                        refine w_iload (n := 233) O dX7_next_231 rfl rfl ?_
                        refine w_goto (tgt := 237) O dX7_next_233 (by decide) ?_
                        refine w_iret O dX7_next_237 ?_
                        have e0 : a_next T st sf sn (nI j) = (oI wh) := by unfold a_next; rw [if_pos hr_j, hfin]; exact if_pos (Or.inl (oI_none (fun m9 h9 => by have := nx_in (hnx.symm.trans (by rw [h9])); omega) c_9))
                        rw [e0] at hQ
                        try dsimp only at hQ
                        exact hQ (mhM_7) ⟨_, _, _, _, _, _, _, _, _, _, _, _, _, _, _, _, _, _, _, _, ((hshM_7 (49) (by omega)).trans ((hs1 (49) (by omega) (by omega)).trans h49)), hphM_7, ((hshM_7 (51) (by omega)).trans ((hs1 (51) (by omega) (by omega)).trans h51)), ((hshM_7 (52) (by omega)).trans ((hs1 (52) (by omega) (by omega)).trans h52)), ((hshM_7 (53) (by omega)).trans ((hs1 (53) (by omega) (by omega)).trans h53)), ((hshM_7 (54) (by omega)).trans ((hs1 (54) (by omega) (by omega)).trans h54)), ((hshM_7 (55) (by omega)).trans ((hs1 (55) (by omega) (by omega)).trans h55)), ((hshM_7 (56) (by omega)).trans h561), ((hshM_7 (57) (by omega)).trans ((hs1 (57) (by omega) (by omega)).trans h57)), ((hshM_7 (58) (by omega)).trans ((hs1 (58) (by omega) (by omega)).trans h58)), ((hshM_7 (59) (by omega)).trans ((hs1 (59) (by omega) (by omega)).trans h59)), ((hshM_7 (60) (by omega)).trans ((hs1 (60) (by omega) (by omega)).trans h60)), htm, (pg0_cong hpg (fun k2 hk2 => hbk k2 (by omega))), (imK2 hIm hbk), hSe, hLa, hLe, hCe⟩ ((sm.rf.tr (hs1.one (by omega))).tr (hshM_7.mono (by omega) (by omega)))
                      · skip
                        refine w_iload_n (n := 228) O dX7_next_227 rfl rfl rfl ?_
                        refine w_if_neN (n := 231) (tgt := 236) O dX7_next_228 (by omega) (by decide) rfl (fun c_10 => ?_) (fun c_10 => ?_)
                        · skip
                          refine w_iload_n (n := 237) O dX7_next_236 rfl rfl rfl ?_
                          refine w_iret O dX7_next_237 ?_
                          have e0 : a_next T st sf sn (nI j) = (nI (ls)) := by unfold a_next; rw [if_pos hr_j, hfin]; exact if_neg (fun z => z.elim (fun z => c_9 (by show oI wh = -4; rw [show wh = none from z]; rfl)) (fun z => c_10 ((nI_eq (by omega) (by decide)).mp z)))
                          rw [e0] at hQ
                          try dsimp only at hQ
                          exact hQ (mhM_7) ⟨_, _, _, _, _, _, _, _, _, _, _, _, _, _, _, _, _, _, _, _, ((hshM_7 (49) (by omega)).trans ((hs1 (49) (by omega) (by omega)).trans h49)), hphM_7, ((hshM_7 (51) (by omega)).trans ((hs1 (51) (by omega) (by omega)).trans h51)), ((hshM_7 (52) (by omega)).trans ((hs1 (52) (by omega) (by omega)).trans h52)), ((hshM_7 (53) (by omega)).trans ((hs1 (53) (by omega) (by omega)).trans h53)), ((hshM_7 (54) (by omega)).trans ((hs1 (54) (by omega) (by omega)).trans h54)), ((hshM_7 (55) (by omega)).trans ((hs1 (55) (by omega) (by omega)).trans h55)), ((hshM_7 (56) (by omega)).trans h561), ((hshM_7 (57) (by omega)).trans ((hs1 (57) (by omega) (by omega)).trans h57)), ((hshM_7 (58) (by omega)).trans ((hs1 (58) (by omega) (by omega)).trans h58)), ((hshM_7 (59) (by omega)).trans ((hs1 (59) (by omega) (by omega)).trans h59)), ((hshM_7 (60) (by omega)).trans ((hs1 (60) (by omega) (by omega)).trans h60)), htm, (pg0_cong hpg (fun k2 hk2 => hbk k2 (by omega))), (imK2 hIm hbk), hSe, hLa, hLe, hCe⟩ ((sm.rf.tr (hs1.one (by omega))).tr (hshM_7.mono (by omega) (by omega)))
                        · skip
                          refine w_iload (n := 233) O dX7_next_231 rfl rfl ?_
                          refine w_goto (tgt := 237) O dX7_next_233 (by decide) ?_
                          refine w_iret O dX7_next_237 ?_
                          have e0 : a_next T st sf sn (nI j) = (oI wh) := by unfold a_next; rw [if_pos hr_j, hfin]; exact if_pos (Or.inr (by rw [c_10]))
                          rw [e0] at hQ
                          try dsimp only at hQ
                          exact hQ (mhM_7) ⟨_, _, _, _, _, _, _, _, _, _, _, _, _, _, _, _, _, _, _, _, ((hshM_7 (49) (by omega)).trans ((hs1 (49) (by omega) (by omega)).trans h49)), hphM_7, ((hshM_7 (51) (by omega)).trans ((hs1 (51) (by omega) (by omega)).trans h51)), ((hshM_7 (52) (by omega)).trans ((hs1 (52) (by omega) (by omega)).trans h52)), ((hshM_7 (53) (by omega)).trans ((hs1 (53) (by omega) (by omega)).trans h53)), ((hshM_7 (54) (by omega)).trans ((hs1 (54) (by omega) (by omega)).trans h54)), ((hshM_7 (55) (by omega)).trans ((hs1 (55) (by omega) (by omega)).trans h55)), ((hshM_7 (56) (by omega)).trans h561), ((hshM_7 (57) (by omega)).trans ((hs1 (57) (by omega) (by omega)).trans h57)), ((hshM_7 (58) (by omega)).trans ((hs1 (58) (by omega) (by omega)).trans h58)), ((hshM_7 (59) (by omega)).trans ((hs1 (59) (by omega) (by omega)).trans h59)), ((hshM_7 (60) (by omega)).trans ((hs1 (60) (by omega) (by omega)).trans h60)), htm, (pg0_cong hpg (fun k2 hk2 => hbk k2 (by omega))), (imK2 hIm hbk), hSe, hLa, hLe, hCe⟩ ((sm.rf.tr (hs1.one (by omega))).tr (hshM_7.mono (by omega) (by omega)))
                    · skip
                      refine w_iconst (n := 130) O dX7_next_129 (v := (nI 0)) (by decide) rfl ?_
                      refine w_istore (n := 132) (lv' := [(6, .int (nI 0)), (0, .ref (gb_ad G 49)), (1, .int (nI (j))), (3, .int (nI (ls))), (4, .int (oI wh)), (5, .int (nI (i)))]) O dX7_next_130 (by decide) rfl rfl ?_
                      refine w_iconst (n := 133) O dX7_next_132 (v := (nI 0)) (by decide) rfl ?_
                      refine w_istore (n := 135) (lv' := [(7, .int (nI 0)), (6, .int (nI 0)), (0, .ref (gb_ad G 49)), (1, .int (nI (j))), (3, .int (nI (ls))), (4, .int (oI wh)), (5, .int (nI (i)))]) O dX7_next_133 (by decide) rfl rfl ?_
                      have N5 : ∀ (k : Nat) (kk wr : Nat), 10 - kk = k → kk ≤ 10 → wr = sMaxv (fun v => tv (10 * i + v)) kk → Wm G X 8 Q 135 [(0, .ref (gb_ad G 49)), (1, .int (nI (j))), (3, .int (nI (ls))), (4, .int (oI wh)), (5, .int (nI (i))), (6, .int (nI (wr))), (7, .int (nI (kk)))] [] mhM_7 := by
                        intro k
                        induction k using Nat.strongRecOn with
                        | ind k ih_N5 =>
                          intro kk wr hk hkk hwr
                          have hwl : wr ≤ 10000 := by rw [hwr]; exact sMaxv_le (fun v hv => htl _ (by omega))
                          refine w_iload (n := 137) O dX7_next_135 rfl rfl ?_
                          refine w_bipush (n := 139) O dX7_next_137 (v := (nI 10)) (by decide) rfl ?_
                          refine w_icmp_geN (n := 142) (tgt := 186) O dX7_next_139 (by omega) (by omega) (by decide) rfl (fun c_11 => ?_) (fun c_11 => ?_)
                          · skip
                            have hwi : wr = (wrst T st sf sn) i := by rw [hwr, show kk = 10 by omega]; unfold wrst; rw [← ecd]; exact sMaxv_cong (fun v hv => by rw [htv _ (by omega), show 10 * i + v = i * 10 + v by omega])
                            refine w_iload (n := 188) O dX7_next_186 rfl rfl ?_
                            refine w_iload_n (n := 189) O dX7_next_188 rfl rfl rfl ?_
                            refine w_icmp_geN (n := 192) (tgt := 197) O dX7_next_189 (by omega) (by omega) (by decide) rfl (fun c_12 => ?_) (fun c_12 => ?_)
                            · skip
                              refine w_iload (n := 199) O dX7_next_197 rfl rfl ?_
                              refine w_istore (n := 201) (lv' := [(4, .int (oI wh)), (0, .ref (gb_ad G 49)), (1, .int (nI (j))), (3, .int (nI (ls))), (5, .int (nI (i))), (6, .int (nI (wr))), (7, .int (nI (kk)))]) O dX7_next_199 (by decide) rfl rfl ?_
                              refine w_iload (n := 203) O dX7_next_201 rfl rfl ?_
                              refine w_iload_n (n := 204) O dX7_next_203 rfl rfl rfl ?_
                              refine w_icmp_geN (n := 207) (tgt := 212) O dX7_next_204 (by omega) (by omega) (by decide) rfl (fun c_13 => ?_) (fun c_13 => by omega)
                              refine w_iload_n (n := 213) O dX7_next_212 rfl rfl rfl ?_
                              refine w_istore_n (n := 214) (lv' := [(3, .int (nI (ls))), (4, .int (oI wh)), (0, .ref (gb_ad G 49)), (1, .int (nI (j))), (5, .int (nI (i))), (6, .int (nI (wr))), (7, .int (nI (kk)))]) O dX7_next_213 rfl (by decide) rfl rfl ?_
                              refine w_iincN (n := 217) (lv' := [(5, .int (nI (i + 1))), (3, .int (nI (ls))), (4, .int (oI wh)), (0, .ref (gb_ad G 49)), (1, .int (nI (j))), (6, .int (nI (wr))), (7, .int (nI (kk)))]) O dX7_next_214 rfl (by decide) rfl rfl ?_
                              refine w_goto (tgt := 122) O dX7_next_217 (by decide) ?_
                              refine w_lv (lv2 := [(0, .ref (gb_ad G 49)), (1, .int (nI (j))), (3, .int (nI (ls))), (4, .int (oI wh)), (5, .int (nI (i + 1)))]) [3, 4, 1, 2, 0] rfl ?_
                              exact ih_N4 _ (by omega) (i + 1) (ls) wh rfl (by omega) (by simp only [nxt]; rw [← hnx, ← hwi]; exact (if_neg (show ¬ wr < ls by omega)).symm) (by omega)
                            · skip
                              refine w_iload (n := 194) O dX7_next_192 rfl rfl ?_
                              refine w_goto (tgt := 199) O dX7_next_194 (by decide) ?_
                              refine w_istore (n := 201) (lv' := [(4, .int (nI (i))), (0, .ref (gb_ad G 49)), (1, .int (nI (j))), (3, .int (nI (ls))), (5, .int (nI (i))), (6, .int (nI (wr))), (7, .int (nI (kk)))]) O dX7_next_199 (by decide) rfl rfl ?_
                              refine w_iload (n := 203) O dX7_next_201 rfl rfl ?_
                              refine w_iload_n (n := 204) O dX7_next_203 rfl rfl rfl ?_
                              refine w_icmp_geN (n := 207) (tgt := 212) O dX7_next_204 (by omega) (by omega) (by decide) rfl (fun c_14 => by omega) (fun c_14 => ?_)
                              refine w_iload (n := 209) O dX7_next_207 rfl rfl ?_
                              refine w_goto (tgt := 213) O dX7_next_209 (by decide) ?_
                              refine w_istore_n (n := 214) (lv' := [(3, .int (nI (wr))), (4, .int (nI (i))), (0, .ref (gb_ad G 49)), (1, .int (nI (j))), (5, .int (nI (i))), (6, .int (nI (wr))), (7, .int (nI (kk)))]) O dX7_next_213 rfl (by decide) rfl rfl ?_
                              refine w_iincN (n := 217) (lv' := [(5, .int (nI (i + 1))), (3, .int (nI (wr))), (4, .int (nI (i))), (0, .ref (gb_ad G 49)), (1, .int (nI (j))), (6, .int (nI (wr))), (7, .int (nI (kk)))]) O dX7_next_214 rfl (by decide) rfl rfl ?_
                              refine w_goto (tgt := 122) O dX7_next_217 (by decide) ?_
                              refine w_lv (lv2 := [(0, .ref (gb_ad G 49)), (1, .int (nI (j))), (3, .int (nI (wr))), (4, .int (nI (i))), (5, .int (nI (i + 1)))]) [3, 4, 1, 2, 0] rfl ?_
                              exact ih_N4 _ (by omega) (i + 1) (wr) (some i) rfl (by omega) (by simp only [nxt]; rw [← hnx, ← hwi]; exact (if_pos (show wr < ls by omega)).symm) (by omega)
                          · skip
                            have htk := htl (10 * i + kk) (by omega)
                            refine w_aload_n (n := 143) O dX7_next_142 rfl rfl rfl ?_
                            refine w_getf (n := 146) O 25 dX7_next_143 (by omega) ((hshM_7 (49) (by omega)).trans ((hs1 (49) (by omega) (by omega)).trans h49)) rfl (by decide) uX7 uf_X7_32 rfl rfl ?_
                            refine w_bipush (n := 148) O dX7_next_146 (v := (nI 10)) (by decide) rfl ?_
                            refine w_iload (n := 150) O dX7_next_148 rfl rfl ?_
                            refine w_imulN (n := 151) O dX7_next_150 rfl ?_
                            refine w_iload (n := 153) O dX7_next_151 rfl rfl ?_
                            refine w_iaddN (n := 154) O dX7_next_153 rfl ?_
                            refine w_ialdN (n := 155) O dX7_next_154 hW.2.1 (by omega) ((hshM_7 (56) (by omega)).trans h561) (by omega) (by decide) rfl ?_
                            refine w_iload (n := 157) O dX7_next_155 rfl rfl ?_
                            refine w_icmp_leN (n := 160) (tgt := 176) O dX7_next_157 (by omega) (by omega) (by decide) rfl (fun c_15 => ?_) (fun c_15 => ?_)
                            · skip
                              refine w_iload (n := 178) O dX7_next_176 rfl rfl ?_
                              refine w_istore (n := 180) (lv' := [(6, .int (nI (wr))), (0, .ref (gb_ad G 49)), (1, .int (nI (j))), (3, .int (nI (ls))), (4, .int (oI wh)), (5, .int (nI (i))), (7, .int (nI (kk)))]) O dX7_next_178 (by decide) rfl rfl ?_
                              refine w_iincN (n := 183) (lv' := [(7, .int (nI (kk + 1))), (6, .int (nI (wr))), (0, .ref (gb_ad G 49)), (1, .int (nI (j))), (3, .int (nI (ls))), (4, .int (oI wh)), (5, .int (nI (i)))]) O dX7_next_180 rfl (by decide) rfl rfl ?_
                              refine w_goto (tgt := 135) O dX7_next_183 (by decide) ?_
                              refine w_lv (lv2 := [(0, .ref (gb_ad G 49)), (1, .int (nI (j))), (3, .int (nI (ls))), (4, .int (oI wh)), (5, .int (nI (i))), (6, .int (nI (wr))), (7, .int (nI (kk + 1)))]) [2, 3, 4, 5, 6, 1, 0] rfl ?_
                              exact ih_N5 _ (by omega) (kk + 1) (wr) rfl (by omega) (by simp only [sMaxv]; rw [← hwr]; omega)
                            · skip
                              refine w_aload_n (n := 161) O dX7_next_160 rfl rfl rfl ?_
                              refine w_getf (n := 164) O 25 dX7_next_161 (by omega) ((hshM_7 (49) (by omega)).trans ((hs1 (49) (by omega) (by omega)).trans h49)) rfl (by decide) uX7 uf_X7_32 rfl rfl ?_
                              refine w_bipush (n := 166) O dX7_next_164 (v := (nI 10)) (by decide) rfl ?_
                              refine w_iload (n := 168) O dX7_next_166 rfl rfl ?_
                              refine w_imulN (n := 169) O dX7_next_168 rfl ?_
                              refine w_iload (n := 171) O dX7_next_169 rfl rfl ?_
                              refine w_iaddN (n := 172) O dX7_next_171 rfl ?_
                              refine w_ialdN (n := 173) O dX7_next_172 hW.2.1 (by omega) ((hshM_7 (56) (by omega)).trans h561) (by omega) (by decide) rfl ?_
                              refine w_goto (tgt := 178) O dX7_next_173 (by decide) ?_
                              refine w_istore (n := 180) (lv' := [(6, .int (nI (tv (((10 * i) + kk))))), (0, .ref (gb_ad G 49)), (1, .int (nI (j))), (3, .int (nI (ls))), (4, .int (oI wh)), (5, .int (nI (i))), (7, .int (nI (kk)))]) O dX7_next_178 (by decide) rfl rfl ?_
                              refine w_iincN (n := 183) (lv' := [(7, .int (nI (kk + 1))), (6, .int (nI (tv (((10 * i) + kk))))), (0, .ref (gb_ad G 49)), (1, .int (nI (j))), (3, .int (nI (ls))), (4, .int (oI wh)), (5, .int (nI (i)))]) O dX7_next_180 rfl (by decide) rfl rfl ?_
                              refine w_goto (tgt := 135) O dX7_next_183 (by decide) ?_
                              refine w_lv (lv2 := [(0, .ref (gb_ad G 49)), (1, .int (nI (j))), (3, .int (nI (ls))), (4, .int (oI wh)), (5, .int (nI (i))), (6, .int (nI (tv (((10 * i) + kk))))), (7, .int (nI (kk + 1)))]) [2, 3, 4, 5, 6, 1, 0] rfl ?_
                              exact ih_N5 _ (by omega) (kk + 1) (tv (((10 * i) + kk))) rfl (by omega) (by simp only [sMaxv]; rw [← hwr]; omega)
                      refine w_lv (lv2 := [(0, .ref (gb_ad G 49)), (1, .int (nI (j))), (3, .int (nI (ls))), (4, .int (oI wh)), (5, .int (nI (i))), (6, .int (nI 0)), (7, .int (nI 0))]) [2, 3, 4, 5, 6, 1, 0] rfl ?_
                      exact N5 _ 0 0 rfl (Nat.zero_le _) rfl
                refine w_lv (lv2 := [(0, .ref (gb_ad G 49)), (1, .int (nI (j))), (3, .int (nI (al1))), (4, .int (-4)), (5, .int (nI 0))]) [3, 4, 2, 1, 0] rfl ?_
                exact N4 _ 0 al1 none rfl (Nat.zero_le _) rfl (by omega)
              · skip
                refine w_aload_n (n := 53) O dX7_next_52 rfl rfl rfl ?_
                refine w_iload_n (n := 54) O dX7_next_53 rfl rfl rfl ?_
                refine w_cV (n := 57) (ro := some (.int (bI (fitB T st sf sn cd)))) (R := fun mM' => ∃ s', mM' 50 = IA G 150 (pgI s') ∧ pg0 s' (setG T (dig T.2.2.2.1 cd)) ∧ (∀ k, 30 ≤ k → s' k = s1 k) ∧ sm m1 mM' 50 50) (st := []) (st1 := [.int (bI (fitB T st sf sn cd))]) (As := [.int (nI (cd))]) (b := 49) O dX7_next_54 ul_X7_250 um_X7_laysGuilts (f_X7_laysGuilts (s := s1) (T := T) (tm := tm) (dg := dg1) hW ⟨h501, hpg1, ((hs1 (55) (by omega) (by omega)).trans h55), _, _, _, _, _, _, _, _, _, _, _, _, _, _, _, ((hs1 (49) (by omega) (by omega)).trans h49)⟩ ok htm hsn6 hok.2.2.2.2.2.2.2.1 hSe (by omega) (fun M' s' h1 h2 h3 h4 => ⟨rfl, s', h1, h2, h3, h4⟩)) rfl (by omega) ((hs1 (49) (by omega) (by omega)).trans h49) rfl rfl rfl rfl (by omega) (Nat.le_of_ble_eq_true rfl) rfl (fun mhM_16 hM_16 => ?_)
                obtain ⟨shM_16, hphM_16, hqhM_16, hkhM_16, hshM_16⟩ := hM_16
                refine w_if_eqB (n := 60) (tgt := 100) O dX7_next_57 (by decide) rfl (fun c_17 => ?_) (fun c_17 => ?_)
                · skip
                  refine w_iincN (n := 103) (lv' := [(3, .int (nI (cd + 1))), (0, .ref (gb_ad G 49)), (1, .int (nI (j))), (2, .int (nI (al1)))]) O dX7_next_100 rfl (by decide) rfl rfl ?_
                  refine w_goto (tgt := 44) O dX7_next_103 (by decide) ?_
                  refine w_lv (lv2 := [(0, .ref (gb_ad G 49)), (1, .int (nI (j))), (2, .int (nI (al1))), (3, .int (nI (cd + 1)))]) [1, 2, 3, 0] rfl ?_
                  exact ih_N2 _ (by omega) (cd + 1) al1 tv _ _ _ rfl (by omega) (by rw [sCnt, ← hal1, c_17]; rfl) (fun k2 hk2 => by rw [tell_no c_17]; exact htv k2 hk2) (dig_le T.2.2.2.1 cd) hqhM_16 hphM_16 (fun k2 h1 h2 => (hkhM_16 k2 h1).trans (hag k2 h1 h2)) ((hshM_16 (56) (by omega)).trans h561) ((sm2.rf.tr hs1).tr (sm.l hshM_16))
                · skip
                  refine w_iincN (n := 63) (lv' := [(2, .int (nI (al1 + 1))), (0, .ref (gb_ad G 49)), (1, .int (nI (j))), (3, .int (nI (cd)))]) O dX7_next_60 rfl (by decide) rfl rfl ?_
                  refine w_iconst (n := 64) O dX7_next_63 (v := (nI 0)) (by decide) rfl ?_
                  refine w_istore (n := 66) (lv' := [(4, .int (nI 0)), (2, .int (nI (al1 + 1))), (0, .ref (gb_ad G 49)), (1, .int (nI (j))), (3, .int (nI (cd)))]) O dX7_next_64 (by decide) rfl rfl ?_
                  have N3 : ∀ (k : Nat) (i : Nat) (tv2 : Nat → Nat) (m2 : gb_M), 9 - i = k → i ≤ 9 → (∀ k2, tv2 k2 = if k2 < 10 * i ∧ tTap (setG T (dig T.2.2.2.1 cd)) (k2 / 10) = k2 % 10 then tv k2 + 1 else tv k2) → m2 50 = IA G 150 (pgI shM_16) → m2 56 = IN G 90 tv2 → sm2 mM m2 50 50 56 56 → Wm G X 8 Q 66 [(0, .ref (gb_ad G 49)), (1, .int (nI (j))), (2, .int (nI ((al1 + 1)))), (3, .int (nI (cd))), (4, .int (nI (i)))] [] m2 := by
                    intro k
                    induction k using Nat.strongRecOn with
                    | ind k ih_N3 =>
                      intro i tv2 m2 hk hi9 htv2 h502 h562 hs2
                      have htp : tTap (setG T (dig T.2.2.2.1 cd)) i < 10 := Nat.mod_lt _ (by decide)
                      refine w_iload (n := 68) O dX7_next_66 rfl rfl ?_
                      refine w_bipush (n := 70) O dX7_next_68 (v := (nI 9)) (by decide) rfl ?_
                      refine w_icmp_geN (n := 73) (tgt := 100) O dX7_next_70 (by omega) (by omega) (by decide) rfl (fun c_18 => ?_) (fun c_18 => ?_)
                      · skip
                        refine w_iincN (n := 103) (lv' := [(3, .int (nI (cd + 1))), (0, .ref (gb_ad G 49)), (1, .int (nI (j))), (2, .int (nI ((al1 + 1)))), (4, .int (nI (i)))]) O dX7_next_100 rfl (by decide) rfl rfl ?_
                        refine w_goto (tgt := 44) O dX7_next_103 (by decide) ?_
                        refine w_lv (lv2 := [(0, .ref (gb_ad G 49)), (1, .int (nI (j))), (2, .int (nI ((al1 + 1)))), (3, .int (nI (cd + 1)))]) [1, 2, 3, 0] rfl ?_
                        exact ih_N2 _ (by omega) (cd + 1) (al1 + 1) tv2 _ _ _ rfl (by omega) (by rw [sCnt, ← hal1, c_17]; rfl) (fun k2 hk2 => by rw [tell_yes c_17, htv2 k2, ← htv k2 hk2, show i = 9 by omega]; by_cases e9 : tTap (setG T (dig T.2.2.2.1 cd)) (k2 / 10) = k2 % 10; (rw [if_pos ⟨by omega, e9⟩, if_pos e9]); (rw [if_neg (fun z => e9 z.2), if_neg e9, Nat.add_zero])) (dig_le T.2.2.2.1 cd) hqhM_16 h502 (fun k2 h1 h2 => (hkhM_16 k2 h1).trans (hag k2 h1 h2)) h562 (sm2.rf.tr hs2)
                      · skip
                        refine w_aload_n (n := 74) O dX7_next_73 rfl rfl rfl ?_
                        refine w_getf (n := 77) O 25 dX7_next_74 (by omega) ((hs2 (49) (by omega) (by omega)).trans h49) rfl (by decide) uX7 uf_X7_32 rfl rfl ?_
                        refine w_bipush (n := 79) O dX7_next_77 (v := (nI 10)) (by decide) rfl ?_
                        refine w_iload (n := 81) O dX7_next_79 rfl rfl ?_
                        refine w_imulN (n := 82) O dX7_next_81 rfl ?_
                        refine w_aload_n (n := 83) O dX7_next_82 rfl rfl rfl ?_
                        refine w_iload (n := 85) O dX7_next_83 rfl rfl ?_
                        refine w_cV (n := 88) (ro := some (.int (nI (tTap ((setG T (dig T.2.2.2.1 cd))) i)))) (R := fun mM' => m2 = mM') (st := [.int (nI ((10 * i))), .ref (gb_ad G 56)]) (st1 := [.int (nI (tTap ((setG T (dig T.2.2.2.1 cd))) i)), .int (nI ((10 * i))), .ref (gb_ad G 56)]) (As := [.int (nI (i))]) (b := 49) O dX7_next_85 ul_X7_199 um_X7_taps (f_X7_taps (s := shM_16) (T := (setG T (dig T.2.2.2.1 cd))) (tm := tm) hW ⟨h502, hqhM_16, _, _, _, _, _, _, _, _, _, _, _, _, _, _, _, _, ((hs2 (49) (by omega) (by omega)).trans h49)⟩ (okT_setG ok (dig_le T.2.2.2.1 cd)) htm (by omega) ⟨rfl, rfl⟩) rfl (by omega) ((hs2 (49) (by omega) (by omega)).trans h49) rfl rfl rfl rfl (by decide) (Nat.le_of_ble_eq_true rfl) rfl (fun mhM_19 hM_19 => ?_)
                        subst hM_19
                        refine w_iaddN (n := 89) O dX7_next_88 rfl ?_
                        refine w_dup2 (n := 90) O dX7_next_89 rfl rfl rfl ?_
                        refine w_ialdN (n := 91) O dX7_next_90 hW.2.1 (by omega) h562 (by omega) (by decide) rfl ?_
                        refine w_iconst (n := 92) O dX7_next_91 (v := (nI 1)) (by decide) rfl ?_
                        refine w_iaddN (n := 93) O dX7_next_92 rfl ?_
                        refine w_iastN (n := 94) O dX7_next_93 hW.2.1 (by omega) h562 (by omega) (by decide) rfl ?_
                        refine w_iincN (n := 97) (lv' := [(4, .int (nI (i + 1))), (0, .ref (gb_ad G 49)), (1, .int (nI (j))), (2, .int (nI ((al1 + 1)))), (3, .int (nI (cd)))]) O dX7_next_94 rfl (by decide) rfl rfl ?_
                        refine w_goto (tgt := 66) O dX7_next_97 (by decide) ?_
                        refine w_lv (lv2 := [(0, .ref (gb_ad G 49)), (1, .int (nI (j))), (2, .int (nI ((al1 + 1)))), (3, .int (nI (cd))), (4, .int (nI (i + 1)))]) [1, 2, 3, 4, 0] rfl ?_
                        exact ih_N3 _ (by omega) (i + 1) _ _ rfl (by omega) (fun k2 => tl_step htv2 htp k2) ((va_up_ne _ _ (by decide)).trans h502) (va_up_self _ _ _) ((sm2.rf.tr hs2).up (by omega))
                  refine w_lv (lv2 := [(0, .ref (gb_ad G 49)), (1, .int (nI (j))), (2, .int (nI (al1 + 1))), (3, .int (nI (cd))), (4, .int (nI 0))]) [2, 3, 1, 4, 0] rfl ?_
                  exact N3 _ 0 tv _ rfl (Nat.zero_le _) (fun k2 => (if_neg (fun z => absurd z.1 (by omega))).symm) hphM_16 ((hshM_16 (56) (by omega)).trans h561) ((sm2.rf.tr hs1).tr (sm.l hshM_16))
          refine w_lv (lv2 := [(0, .ref (gb_ad G 49)), (1, .int (nI (j))), (2, .int (nI 0)), (3, .int (nI 0))]) [1, 2, 3, 0] rfl ?_
          exact N2 _ 0 0 (fun _ => 0) (fun g => if g < 4 then T.1 (g * 6 + 1) else 0) _ _ rfl (Nat.zero_le _) rfl (fun _ _ => rfl) (d9 ok) (by rw [setG_self hn4]; exact (pg_cp hpg (by omega))) ((va_up_ne _ _ (by decide)).trans h501) (fun _ _ _ => rfl) (va_up_self _ _ _) ((sm2.rf.tr hs1).up (by omega))
        · skip
          refine w_aload_n (n := 30) O dX7_next_29 rfl rfl rfl ?_
          refine w_getf (n := 33) O 25 dX7_next_30 (by omega) ((hs1 (49) (by omega) (by omega)).trans h49) rfl (by decide) uX7 uf_X7_32 rfl rfl ?_
          refine w_iload_n (n := 34) O dX7_next_33 rfl rfl rfl ?_
          refine w_iconst (n := 35) O dX7_next_34 (v := (nI 0)) (by decide) rfl ?_
          refine w_iastA (n := 36) O dX7_next_35 hW.2.1 (by omega) h561 (by omega) (by decide) rfl ?_
          refine w_iincN (n := 39) (lv' := [(3, .int (nI (kz + 1))), (0, .ref (gb_ad G 49)), (1, .int (nI (j))), (2, .int (nI 0))]) O dX7_next_36 rfl (by decide) rfl rfl ?_
          refine w_goto (tgt := 23) O dX7_next_39 (by decide) ?_
          refine w_lv (lv2 := [(0, .ref (gb_ad G 49)), (1, .int (nI (j))), (2, .int (nI 0)), (3, .int (nI (kz + 1)))]) [1, 2, 3, 0] rfl ?_
          exact ih_N1 _ (by omega) (kz + 1) _ _ rfl (by omega) (fun k2 hk2 => by unfold upd; split; rfl; exact hte k2 (by omega)) ((va_up_ne _ _ (by decide)).trans h501) (va_up_self _ _ _) ((sm2.rf.tr hs1).up (by omega))
    refine w_lv (lv2 := [(0, .ref (gb_ad G 49)), (1, .int (nI (j))), (2, .int (nI 0)), (3, .int (nI 0))]) [2, 3, 1, 0] rfl ?_
    exact N1 _ 0 te _ rfl (Nat.zero_le _) (fun k2 hk2 => absurd hk2 (Nat.not_lt_zero k2)) hphM_3 ((hshM_3 (56) (by omega)).trans h56) (sm2.rf.tr (sm.l hshM_3))
  · skip
    refine w_iconst (n := 11) O dX7_next_10 (v := (-1)) (by decide) rfl ?_
    refine w_iret O dX7_next_11 ?_
    have e0 : a_next T st sf sn x = -1 := by unfold a_next; rw [if_neg (by rw [c_2]; decide)]
    rw [e0] at hQ
    try dsimp only at hQ
    exact hQ (mM) ⟨_, _, _, _, _, _, _, _, _, _, _, _, _, _, _, _, _, _, _, _, h49, h50, h51, h52, h53, h54, h55, h56, h57, h58, h59, h60, htm, hpg, hIm, hSe, hLa, hLe, hCe⟩ sm.rf
set_option maxRecDepth 100000 in
set_option maxHeartbeats 4000000 in
theorem f_X7_draws {G : gb_G} (hW : gW G) {Q : Option Value → gb_M → Prop} {mM : gb_M} {y1 y3 y4 y5 y6 y7 y9 y10 y11 y12 y13 y14 y15 y16 y19 y20 y21 y22 y24 y26 y31 : Int32} (h49 : mM 49 = (.inr (7, [.ref (gb_ad G 50), .int (y1), .ref (gb_ad G 51), .int (y3), .int (y4), .int (y5), .int (y6), .int (y7), .ref (gb_ad G 52), .int (y9), .int (y10), .int (y11), .int (y12), .int (y13), .int (y14), .int (y15), .int (y16), .ref (gb_ad G 53), .ref (gb_ad G 54), .int (y19), .int (y20), .int (y21), .int (y22), .ref (gb_ad G 55), .int (y24), .ref (gb_ad G 56), .int (y26), .ref (gb_ad G 57), .ref (gb_ad G 58), .ref (gb_ad G 59), .ref (gb_ad G 60), .int (y31)]))) {o1 : Nat} (ho1 : 0 < o1) (ho2 : o1 < 2 ^ 31)  (hQ : ∀ M', M' 49 = (.inr (7, [.ref (gb_ad G 50), .int (y1), .ref (gb_ad G 51), .int (y3), .int (y4), .int (y5), .int (y6), .int (y7), .ref (gb_ad G 52), .int (y9), .int (y10), .int (y11), .int (y12), .int (y13), .int (y14), .int (y15), .int (y16), .ref (gb_ad G 53), .ref (gb_ad G 54), .int (y19), .int (y20), .int (y21), .int (y22), .ref (gb_ad G 55), .int (y24), .ref (gb_ad G 56), .int (stepI y26), .ref (gb_ad G 57), .ref (gb_ad G 58), .ref (gb_ad G 59), .ref (gb_ad G 60), .int (y31)])) → sm mM M' 49 49 → Q (some (.int (nI (sbN (stepI y26) % o1)))) M') : Fn G 0 yX7_draws cX7_draws 2 (some .int) [.ref (gb_ad G 49), .int (nI (o1))] mM Q := by
  have hN := hW.2.2.1
  refine Fn.of hW.1 [(0, .ref (gb_ad G 49)), (1, .int (nI (o1)))] (by decide) (Nat.le_of_ble_eq_true rfl) rfl ?_
  intro X O
  refine w_aload_n (n := 1) O dX7_draws_0 rfl rfl rfl ?_
  refine w_aload_n (n := 2) O dX7_draws_1 rfl rfl rfl ?_
  refine w_getf (n := 5) O 26 dX7_draws_2 (by omega) h49 rfl (by decide) uX7 uf_X7_254 rfl rfl ?_
  refine w_ldcw (n := 8) O dX7_draws_5 uc_X7_257 rfl ?_
  refine w_imul (n := 9) O dX7_draws_8 rfl ?_
  refine w_sipush (n := 12) O dX7_draws_9 (v := (nI 12345)) (by decide) rfl ?_
  refine w_iadd (n := 13) O dX7_draws_12 rfl ?_
  refine w_top (stepI y26) rfl ?_
  refine w_putf (n := 16) (fs' := [.ref (gb_ad G 50), .int (y1), .ref (gb_ad G 51), .int (y3), .int (y4), .int (y5), .int (y6), .int (y7), .ref (gb_ad G 52), .int (y9), .int (y10), .int (y11), .int (y12), .int (y13), .int (y14), .int (y15), .int (y16), .ref (gb_ad G 53), .ref (gb_ad G 54), .int (y19), .int (y20), .int (y21), .int (y22), .ref (gb_ad G 55), .int (y24), .ref (gb_ad G 56), .int (stepI y26), .ref (gb_ad G 57), .ref (gb_ad G 58), .ref (gb_ad G 59), .ref (gb_ad G 60), .int (y31)]) O 26 dX7_draws_13 (by omega) h49 rfl (by decide) uX7 uf_X7_254 tyX7 tyX7_ok nmX7 rfl rfl rfl (Nat.le_of_ble_eq_true rfl) rfl rfl ?_
  refine w_aload_n (n := 17) O dX7_draws_16 rfl rfl rfl ?_
  refine w_getf (n := 20) O 26 dX7_draws_17 (by omega) (va_up_self _ _ _) rfl (by decide) uX7 uf_X7_254 rfl rfl ?_
  refine w_bipush (n := 22) O dX7_draws_20 (v := (nI 16)) (by decide) rfl ?_
  refine w_ishr (n := 23) O dX7_draws_22 rfl ?_
  refine w_sipush (n := 26) O dX7_draws_23 (v := (nI 32767)) (by decide) rfl ?_
  refine w_iand (n := 27) O dX7_draws_26 rfl ?_
  refine w_top (nI (sbN (stepI y26))) (sbN_ok _) ?_
  have hsb := sbN_le (stepI y26)
  refine w_iload_n (n := 28) O dX7_draws_27 rfl rfl rfl ?_
  refine w_iremN (n := 29) O dX7_draws_28 (by omega) (by omega) (by omega) rfl ?_
  refine w_iret O dX7_draws_29 ?_
  exact hQ _ (va_up_self _ _ _) (sm.rf.up (by omega) (by omega))
set_option maxRecDepth 100000 in
set_option maxHeartbeats 4000000 in
theorem f_X7_drift {G : gb_G} (hW : gW G) {Q : Option Value → gb_M → Prop} {mM : gb_M} {T : Tw} {im : Nat → Tw} {kp : Nat → Bool} {bs : Nat → Nat} {ln fa : Nat} {st sf : Nat → Nat} {sn : Nat} {sh : Sh} {sc : Nat → Nat → Int32} {tn : Nat} (hok : okS T im kp bs ln fa st sf sn sh tn) (hM : isMW G mM T im kp bs ln fa st sf sn sh sc tn) {x n z0 : Int32}  (hQ : ∀ M', isMW G M' T im kp bs ln fa st sf sn sh sc tn → sm mM M' 49 60 → Q (some (.int (a_drift T x n z0))) M') : Fn G 8 yX7_drift cX7_drift 8 (some .int) [.ref (gb_ad G 49), .int (x), .int (n), .int (z0)] mM Q := by
  obtain ⟨s, se, le, rp, te, la, ce, tm, x3, x4, x5, x6, x7, x11, x12, x13, x14, x15, x16, x26, h49, h50, h51, h52, h53, h54, h55, h56, h57, h58, h59, h60, htm, hpg, hIm, hSe, hLa, hLe, hCe⟩ := hM
  have ok := hok.1
  have hn4 := ok.1
  have hst9 := hok.2.1
  have hln := hok.2.2.2.1
  have hsn6 := hok.2.2.2.2.2.2.1
  have hN := hW.2.2.1
  refine Fn.of hW.1 [(0, .ref (gb_ad G 49)), (1, .int (x)), (2, .int (n)), (3, .int (z0))] (by decide) (Nat.le_of_ble_eq_true rfl) rfl ?_
  intro X O
  refine w_iload_n (n := 1) O dX7_drift_0 rfl rfl rfl ?_
  refine w_i2l (n := 2) O dX7_drift_1 rfl ?_
  refine w_lconst (n := 3) O dX7_drift_2 (v := lN 1) (by decide) rfl ?_
  refine w_ldc2 (n := 6) O dX7_drift_3 uc_X7_258 rfl ?_
  refine w_topl (lN 60) (by decide) ?_
  refine w_cS (n := 9) (ro := some (.int (bI (wIn (n) (nI 1) (nI 60))))) (R := fun mM' => mM = mM') (st := []) (st1 := [.int (bI (wIn (n) (nI 1) (nI 60)))]) (As := [.long ((n).toInt64), .long (lN 1), .long (lN 60)]) O dX7_drift_6 ul_X7_50 um_X7_in (f_X7_in (x := (n)) (y := (nI 1)) (z := (nI 60)) hW rfl (nI_l (by decide)).symm (nI_l (by decide)).symm ⟨rfl, rfl⟩) rfl rfl rfl (by decide) (Nat.le_of_ble_eq_true rfl) rfl (fun mhM_1 hM_1 => ?_)
  subst hM_1
  refine w_if_eqB (n := 12) (tgt := 22) O dX7_drift_9 (by decide) rfl (fun c_2 => ?_) (fun c_2 => ?_)
  · skip
    refine w_iconst (n := 23) O dX7_drift_22 (v := (-1)) (by decide) rfl ?_
    refine w_iret O dX7_drift_23 ?_
    have e0 : a_drift T x n z0 = -1 := by unfold a_drift; rw [if_neg (by rw [show drOk n z0 = false from by simp [drOk, c_2]]; decide)]
    rw [e0] at hQ
    try dsimp only at hQ
    exact hQ (mM) ⟨_, _, _, _, _, _, _, _, _, _, _, _, _, _, _, _, _, _, _, _, h49, h50, h51, h52, h53, h54, h55, h56, h57, h58, h59, h60, htm, hpg, hIm, hSe, hLa, hLe, hCe⟩ sm.rf
  · skip
    have hr_nn := c_2
    obtain ⟨nn, nna, nnb, rfl⟩ := wIn_t (by omega) c_2 (by omega)
    have cl_nn : (nI nn).toNatClampNeg = nn := nI_clamp (by omega)
    refine w_iload_n (n := 13) O dX7_drift_12 rfl rfl rfl ?_
    refine w_i2l (n := 14) O dX7_drift_13 rfl ?_
    refine w_lconst (n := 15) O dX7_drift_14 (v := lN 0) (by decide) rfl ?_
    refine w_lconst (n := 16) O dX7_drift_15 (v := lN 1) (by decide) rfl ?_
    refine w_cS (n := 19) (ro := some (.int (bI (wIn (z0) (nI 0) (nI 1))))) (R := fun mM' => mM = mM') (st := []) (st1 := [.int (bI (wIn (z0) (nI 0) (nI 1)))]) (As := [.long ((z0).toInt64), .long (lN 0), .long (lN 1)]) O dX7_drift_16 ul_X7_50 um_X7_in (f_X7_in (x := (z0)) (y := (nI 0)) (z := (nI 1)) hW rfl (nI_l (by decide)).symm (nI_l (by decide)).symm ⟨rfl, rfl⟩) rfl rfl rfl (by decide) (Nat.le_of_ble_eq_true rfl) rfl (fun mhM_3 hM_3 => ?_)
    subst hM_3
    refine w_if_neB (n := 22) (tgt := 24) O dX7_drift_19 (by decide) rfl (fun c_4 => ?_) (fun c_4 => ?_)
    · skip
      have hr_z := c_4
      obtain ⟨z, za, zb, rfl⟩ := wIn_t (by omega) c_4 (by omega)
      have cl_z : (nI z).toNatClampNeg = z := nI_clamp (by omega)
      refine w_aload_n (n := 25) O dX7_drift_24 rfl rfl rfl ?_
      refine w_getf (n := 28) O 1 dX7_drift_25 (by omega) h49 rfl (by decide) uX7 uf_X7_136 rfl rfl ?_
      refine w_if_neN (n := 31) (tgt := 34) O dX7_drift_28 (by omega) (by decide) rfl (fun c_5 => ?_) (fun c_5 => ?_)
      · skip
        have hn0 : 0 < T.2.2.2.1 := by omega
        refine w_aload_n (n := 35) O dX7_drift_34 rfl rfl rfl ?_
        refine w_iconst (n := 36) O dX7_drift_35 (v := (nI 0)) (by decide) rfl ?_
        refine w_bipush (n := 38) O dX7_drift_36 (v := (nI 120)) (by decide) rfl ?_
        refine w_cV (n := 41) (ro := none) (R := fun mM' => mM' 50 = IA G 150 (pgI (cpS s 0 120)) ∧ sm mM mM' 50 50) (st := []) (st1 := []) (As := [.int (nI 0), .int (nI 120)]) (b := 49) O dX7_drift_38 ul_X7_224 um_X7_copies (f_X7_copies (s := s) (T := T) (lo := 0) (li := 0) (to := none) (tm := tm) hW ⟨h50, hpg, _, _, _, _, _, _, _, _, _, _, _, _, _, _, _, _, h49⟩ (by omega) (by omega) (by omega) (by omega) (by omega) (fun M' h1 h2 => ⟨rfl, h1, h2⟩)) rfl (by omega) h49 rfl rfl rfl rfl (by decide) (Nat.le_of_ble_eq_true rfl) rfl (fun mhM_6 hM_6 => ?_)
        obtain ⟨hphM_6, hshM_6⟩ := hM_6
        refine w_aload_n (n := 42) O dX7_drift_41 rfl rfl rfl ?_
        refine w_iload_n (n := 43) O dX7_drift_42 rfl rfl rfl ?_
        refine w_putf (n := 46) (fs' := [.ref (gb_ad G 50), .int (nI (T.2.2.2.1)), .ref (gb_ad G 51), .int (x3), .int (x4), .int (x5), .int (x6), .int (x7), .ref (gb_ad G 52), .int (nI (ln)), .int (nI (fa)), .int (x11), .int (x12), .int (x13), .int (x14), .int (x15), .int (x16), .ref (gb_ad G 53), .ref (gb_ad G 54), .int (nI 0), .int (nI 0), .int (oI none), .int (nI (tm)), .ref (gb_ad G 55), .int (nI (sn)), .ref (gb_ad G 56), .int (x), .ref (gb_ad G 57), .ref (gb_ad G 58), .ref (gb_ad G 59), .ref (gb_ad G 60), .int (nI (tn))]) O 26 dX7_drift_43 (by omega) ((hshM_6 (49) (by omega)).trans h49) rfl (by decide) uX7 uf_X7_254 tyX7 tyX7_ok nmX7 rfl rfl rfl (Nat.le_of_ble_eq_true rfl) rfl rfl ?_
        refine w_iconst (n := 47) O dX7_drift_46 (v := (nI 0)) (by decide) rfl ?_
        refine w_istore (n := 49) (lv' := [(4, .int (nI 0)), (0, .ref (gb_ad G 49)), (1, .int (x)), (2, .int (nI (nn))), (3, .int (nI (z)))]) O dX7_drift_47 (by decide) rfl rfl ?_
        refine w_iconst (n := 50) O dX7_drift_49 (v := (nI 0)) (by decide) rfl ?_
        refine w_istore (n := 52) (lv' := [(5, .int (nI 0)), (4, .int (nI 0)), (0, .ref (gb_ad G 49)), (1, .int (x)), (2, .int (nI (nn))), (3, .int (nI (z)))]) O dX7_drift_50 (by decide) rfl rfl ?_
        refine w_iconst (n := 53) O dX7_drift_52 (v := (nI 0)) (by decide) rfl ?_
        refine w_istore (n := 55) (lv' := [(6, .int (nI 0)), (5, .int (nI 0)), (4, .int (nI 0)), (0, .ref (gb_ad G 49)), (1, .int (x)), (2, .int (nI (nn))), (3, .int (nI (z)))]) O dX7_drift_53 (by decide) rfl rfl ?_
        have DL : ∀ (k : Nat) (t oc su : Nat) (s1 : Nat → Nat) (m1 : gb_M), nn - t = k → t ≤ nn → oc = sSum (fun k => dVal 0 (dRun T x (k + 1)).2) t → su = sSum (fun k => dVal 1 (dRun T x (k + 1)).2) t → m1 49 = (.inr (7, [.ref (gb_ad G 50), .int (nI (T.2.2.2.1)), .ref (gb_ad G 51), .int (x3), .int (x4), .int (x5), .int (x6), .int (x7), .ref (gb_ad G 52), .int (nI (ln)), .int (nI (fa)), .int (x11), .int (x12), .int (x13), .int (x14), .int (x15), .int (x16), .ref (gb_ad G 53), .ref (gb_ad G 54), .int (nI 0), .int (nI 0), .int (oI none), .int (nI (tm)), .ref (gb_ad G 55), .int (nI (sn)), .ref (gb_ad G 56), .int ((dRun T x t).1), .ref (gb_ad G 57), .ref (gb_ad G 58), .ref (gb_ad G 59), .ref (gb_ad G 60), .int (nI (tn))])) → m1 50 = IA G 150 (pgI s1) → pg0 s1 (dRun T x t).2 → (∀ k2, 30 ≤ k2 → k2 < 150 → s1 k2 = cpS s 0 120 k2) → sm mM m1 49 50 → Wm G X 8 Q 55 [(0, .ref (gb_ad G 49)), (1, .int (x)), (2, .int (nI (nn))), (3, .int (nI (z))), (4, .int (nI (oc))), (5, .int (nI (su))), (6, .int (nI (t)))] [] m1 := by
          intro k
          induction k using Nat.strongRecOn with
          | ind k ih_DL =>
            intro t oc su s1 m1 hk ht hoc hsu h490 h501 hpg1 hag hs1
            have hgn : (dRun T x t).2.2.2.2.1 = T.2.2.2.1 := by rw [(dRun_ok ok hn0 x t).2]
            have h491 : m1 49 = (.inr (7, [.ref (gb_ad G 50), .int (nI ((dRun T x t).2.2.2.2.1)), .ref (gb_ad G 51), .int (x3), .int (x4), .int (x5), .int (x6), .int (x7), .ref (gb_ad G 52), .int (nI (ln)), .int (nI (fa)), .int (x11), .int (x12), .int (x13), .int (x14), .int (x15), .int (x16), .ref (gb_ad G 53), .ref (gb_ad G 54), .int (nI 0), .int (nI 0), .int (oI none), .int (nI (tm)), .ref (gb_ad G 55), .int (nI (sn)), .ref (gb_ad G 56), .int ((dRun T x t).1), .ref (gb_ad G 57), .ref (gb_ad G 58), .ref (gb_ad G 59), .ref (gb_ad G 60), .int (nI (tn))])) := by rw [hgn]; exact h490
            have okD := (dRun_ok ok hn0 x (t + 1)).1
            refine w_iload (n := 57) O dX7_drift_55 rfl rfl ?_
            refine w_iload_n (n := 58) O dX7_drift_57 rfl rfl rfl ?_
            refine w_icmp_geN (n := 61) (tgt := 131) O dX7_drift_58 (by omega) (by omega) (by decide) rfl (fun c_7 => ?_) (fun c_7 => ?_)
            · skip
              refine w_aload_n (n := 132) O dX7_drift_131 rfl rfl rfl ?_
              refine w_bipush (n := 134) O dX7_drift_132 (v := (nI 120)) (by decide) rfl ?_
              refine w_iconst (n := 135) O dX7_drift_134 (v := (nI 0)) (by decide) rfl ?_
              refine w_cV (n := 138) (ro := none) (R := fun mM' => mM' 50 = IA G 150 (pgI (cpS s1 120 0)) ∧ sm m1 mM' 50 50) (st := []) (st1 := []) (As := [.int (nI 120), .int (nI 0)]) (b := 49) O dX7_drift_135 ul_X7_224 um_X7_copies (f_X7_copies (s := s1) (T := (dRun T x t).2) (lo := 0) (li := 0) (to := none) (tm := tm) hW ⟨h501, hpg1, _, _, _, _, _, _, _, _, _, _, _, _, _, _, _, _, h491⟩ (by omega) (by omega) (by omega) (by omega) (by omega) (fun M' h1 h2 => ⟨rfl, h1, h2⟩)) rfl (by omega) h491 rfl rfl rfl rfl (by decide) (Nat.le_of_ble_eq_true rfl) rfl (fun mhM_8 hM_8 => ?_)
              obtain ⟨hphM_8, hshM_8⟩ := hM_8
              have hbk := pg_bk hag
              refine w_iload_n (n := 139) O dX7_drift_138 rfl rfl rfl ?_
              refine w_if_neN (n := 142) (tgt := 147) O dX7_drift_139 (by omega) (by decide) rfl (fun c_9 => ?_) (fun c_9 => ?_)
              · skip
                refine w_iload (n := 149) O dX7_drift_147 rfl rfl ?_
                refine w_iret O dX7_drift_149 ?_
                have h49z : mhM_8 49 = (.inr (7, [.ref (gb_ad G 50), .int (nI (T.2.2.2.1)), .ref (gb_ad G 51), .int (x3), .int (x4), .int (x5), .int (x6), .int (x7), .ref (gb_ad G 52), .int (nI (ln)), .int (nI (fa)), .int (x11), .int (x12), .int (x13), .int (x14), .int (x15), .int (x16), .ref (gb_ad G 53), .ref (gb_ad G 54), .int (nI 0), .int (nI 0), .int (oI none), .int (nI (tm)), .ref (gb_ad G 55), .int (nI (sn)), .ref (gb_ad G 56), .int ((dRun T x t).1), .ref (gb_ad G 57), .ref (gb_ad G 58), .ref (gb_ad G 59), .ref (gb_ad G 60), .int (nI (tn))])) := by have z9 := ((hshM_8 (49) (by omega)).trans h491); rw [hgn] at z9; exact z9
                have e0 : a_drift T x (nI nn) (nI z) = (nI (su)) := by unfold a_drift; rw [if_pos (by unfold drOk; rw [hr_nn, hr_z]; rfl), if_neg c_5, cl_nn, cl_z]; rw [show z = 1 by omega, ← show t = nn by omega, ← hsu]
                rw [e0] at hQ
                try dsimp only at hQ
                exact hQ (mhM_8) ⟨_, _, _, _, _, _, _, _, _, _, _, _, _, _, _, _, _, _, _, _, h49z, hphM_8, ((hshM_8 (51) (by omega)).trans ((hs1 (51) (by omega)).trans h51)), ((hshM_8 (52) (by omega)).trans ((hs1 (52) (by omega)).trans h52)), ((hshM_8 (53) (by omega)).trans ((hs1 (53) (by omega)).trans h53)), ((hshM_8 (54) (by omega)).trans ((hs1 (54) (by omega)).trans h54)), ((hshM_8 (55) (by omega)).trans ((hs1 (55) (by omega)).trans h55)), ((hshM_8 (56) (by omega)).trans ((hs1 (56) (by omega)).trans h56)), ((hshM_8 (57) (by omega)).trans ((hs1 (57) (by omega)).trans h57)), ((hshM_8 (58) (by omega)).trans ((hs1 (58) (by omega)).trans h58)), ((hshM_8 (59) (by omega)).trans ((hs1 (59) (by omega)).trans h59)), ((hshM_8 (60) (by omega)).trans ((hs1 (60) (by omega)).trans h60)), htm, (pg0_cong hpg (fun k2 hk2 => hbk k2 (by omega))), (imK2 hIm hbk), hSe, hLa, hLe, hCe⟩ ((sm.rf.tr (hs1.mono (by omega) (by omega))).tr (hshM_8.mono (by omega) (by omega)))
              · skip
                refine w_iload (n := 144) O dX7_drift_142 rfl rfl ?_
                refine w_goto (tgt := 149) O dX7_drift_144 (by decide) ?_
                refine w_iret O dX7_drift_149 ?_
                have h49z : mhM_8 49 = (.inr (7, [.ref (gb_ad G 50), .int (nI (T.2.2.2.1)), .ref (gb_ad G 51), .int (x3), .int (x4), .int (x5), .int (x6), .int (x7), .ref (gb_ad G 52), .int (nI (ln)), .int (nI (fa)), .int (x11), .int (x12), .int (x13), .int (x14), .int (x15), .int (x16), .ref (gb_ad G 53), .ref (gb_ad G 54), .int (nI 0), .int (nI 0), .int (oI none), .int (nI (tm)), .ref (gb_ad G 55), .int (nI (sn)), .ref (gb_ad G 56), .int ((dRun T x t).1), .ref (gb_ad G 57), .ref (gb_ad G 58), .ref (gb_ad G 59), .ref (gb_ad G 60), .int (nI (tn))])) := by have z9 := ((hshM_8 (49) (by omega)).trans h491); rw [hgn] at z9; exact z9
                have e0 : a_drift T x (nI nn) (nI z) = (nI (oc)) := by unfold a_drift; rw [if_pos (by unfold drOk; rw [hr_nn, hr_z]; rfl), if_neg c_5, cl_nn, cl_z]; rw [show z = 0 by omega, ← show t = nn by omega, ← hoc]
                rw [e0] at hQ
                try dsimp only at hQ
                exact hQ (mhM_8) ⟨_, _, _, _, _, _, _, _, _, _, _, _, _, _, _, _, _, _, _, _, h49z, hphM_8, ((hshM_8 (51) (by omega)).trans ((hs1 (51) (by omega)).trans h51)), ((hshM_8 (52) (by omega)).trans ((hs1 (52) (by omega)).trans h52)), ((hshM_8 (53) (by omega)).trans ((hs1 (53) (by omega)).trans h53)), ((hshM_8 (54) (by omega)).trans ((hs1 (54) (by omega)).trans h54)), ((hshM_8 (55) (by omega)).trans ((hs1 (55) (by omega)).trans h55)), ((hshM_8 (56) (by omega)).trans ((hs1 (56) (by omega)).trans h56)), ((hshM_8 (57) (by omega)).trans ((hs1 (57) (by omega)).trans h57)), ((hshM_8 (58) (by omega)).trans ((hs1 (58) (by omega)).trans h58)), ((hshM_8 (59) (by omega)).trans ((hs1 (59) (by omega)).trans h59)), ((hshM_8 (60) (by omega)).trans ((hs1 (60) (by omega)).trans h60)), htm, (pg0_cong hpg (fun k2 hk2 => hbk k2 (by omega))), (imK2 hIm hbk), hSe, hLa, hLe, hCe⟩ ((sm.rf.tr (hs1.mono (by omega) (by omega))).tr (hshM_8.mono (by omega) (by omega)))
            · skip
              have hgl := Nat.mod_lt (sbN (stepI (dRun T x t).1)) (show 0 < (dRun T x t).2.2.2.2.1 by omega)
              refine w_aload_n (n := 62) O dX7_drift_61 rfl rfl rfl ?_
              refine w_aload_n (n := 63) O dX7_drift_62 rfl rfl rfl ?_
              refine w_getf (n := 66) O 1 dX7_drift_63 (by omega) h491 rfl (by decide) uX7 uf_X7_136 rfl rfl ?_
              refine w_cV (n := 69) (ro := some (.int (nI ((sbN (stepI ((dRun T x t).1)) % ((dRun T x t).2.2.2.2.1)))))) (R := fun mM' => mM' 49 = (.inr (7, [.ref (gb_ad G 50), .int (nI ((dRun T x t).2.2.2.2.1)), .ref (gb_ad G 51), .int (x3), .int (x4), .int (x5), .int (x6), .int (x7), .ref (gb_ad G 52), .int (nI (ln)), .int (nI (fa)), .int (x11), .int (x12), .int (x13), .int (x14), .int (x15), .int (x16), .ref (gb_ad G 53), .ref (gb_ad G 54), .int (nI 0), .int (nI 0), .int (oI none), .int (nI (tm)), .ref (gb_ad G 55), .int (nI (sn)), .ref (gb_ad G 56), .int (stepI ((dRun T x t).1)), .ref (gb_ad G 57), .ref (gb_ad G 58), .ref (gb_ad G 59), .ref (gb_ad G 60), .int (nI (tn))])) ∧ sm m1 mM' 49 49) (st := []) (st1 := [.int (nI ((sbN (stepI ((dRun T x t).1)) % ((dRun T x t).2.2.2.2.1))))]) (As := [.int (nI ((dRun T x t).2.2.2.2.1))]) (b := 49) O dX7_drift_66 ul_X7_260 um_X7_draws (f_X7_draws hW h491 (by omega) (by omega) (fun M' h1 h2 => ⟨rfl, h1, h2⟩)) rfl (by omega) h491 rfl rfl rfl rfl (by decide) (Nat.le_of_ble_eq_true rfl) rfl (fun mhM_10 hM_10 => ?_)
              obtain ⟨hphM_10, hshM_10⟩ := hM_10
              refine w_istore (n := 71) (lv' := [(7, .int (nI ((sbN (stepI ((dRun T x t).1)) % ((dRun T x t).2.2.2.2.1))))), (0, .ref (gb_ad G 49)), (1, .int (x)), (2, .int (nI (nn))), (3, .int (nI (z))), (4, .int (nI (oc))), (5, .int (nI (su))), (6, .int (nI (t)))]) O dX7_drift_69 (by decide) rfl rfl ?_
              refine w_aload_n (n := 72) O dX7_drift_71 rfl rfl rfl ?_
              refine w_getf (n := 75) O 0 dX7_drift_72 (by omega) hphM_10 rfl (by decide) uX7 uf_X7_7 rfl rfl ?_
              refine w_iconst (n := 76) O dX7_drift_75 (v := (nI 4)) (by decide) rfl ?_
              refine w_iload (n := 78) O dX7_drift_76 rfl rfl ?_
              refine w_iaddN (n := 79) O dX7_drift_78 rfl ?_
              refine w_aload_n (n := 80) O dX7_drift_79 rfl rfl rfl ?_
              refine w_bipush (n := 82) O dX7_drift_80 (v := (nI 10)) (by decide) rfl ?_
              refine w_cV (n := 85) (ro := some (.int (nI ((sbN (stepI (stepI ((dRun T x t).1))) % 10))))) (R := fun mM' => mM' 49 = (.inr (7, [.ref (gb_ad G 50), .int (nI ((dRun T x t).2.2.2.2.1)), .ref (gb_ad G 51), .int (x3), .int (x4), .int (x5), .int (x6), .int (x7), .ref (gb_ad G 52), .int (nI (ln)), .int (nI (fa)), .int (x11), .int (x12), .int (x13), .int (x14), .int (x15), .int (x16), .ref (gb_ad G 53), .ref (gb_ad G 54), .int (nI 0), .int (nI 0), .int (oI none), .int (nI (tm)), .ref (gb_ad G 55), .int (nI (sn)), .ref (gb_ad G 56), .int (stepI (stepI ((dRun T x t).1))), .ref (gb_ad G 57), .ref (gb_ad G 58), .ref (gb_ad G 59), .ref (gb_ad G 60), .int (nI (tn))])) ∧ sm mhM_10 mM' 49 49) (st := [.int (nI ((4 + (sbN (stepI ((dRun T x t).1)) % ((dRun T x t).2.2.2.2.1))))), .ref (gb_ad G 50)]) (st1 := [.int (nI ((sbN (stepI (stepI ((dRun T x t).1))) % 10))), .int (nI ((4 + (sbN (stepI ((dRun T x t).1)) % ((dRun T x t).2.2.2.2.1))))), .ref (gb_ad G 50)]) (As := [.int (nI 10)]) (b := 49) O dX7_drift_82 ul_X7_260 um_X7_draws (f_X7_draws hW hphM_10 (by omega) (by omega) (fun M' h1 h2 => ⟨rfl, h1, h2⟩)) rfl (by omega) hphM_10 rfl rfl rfl rfl (by decide) (Nat.le_of_ble_eq_true rfl) rfl (fun mhM_11 hM_11 => ?_)
              obtain ⟨hphM_11, hshM_11⟩ := hM_11
              refine w_iastP (n := 86) (v := (sbN (stepI (stepI ((dRun T x t).1))) % 10)) O dX7_drift_85 hW.2.1 (by omega) ((hshM_11 (50) (by omega)).trans ((hshM_10 (50) (by omega)).trans h501)) (by omega) (by decide) (pgI_nv (by omega)) rfl ?_
              refine w_iload (n := 88) O dX7_drift_86 rfl rfl ?_
              refine w_aload_n (n := 89) O dX7_drift_88 rfl rfl rfl ?_
              refine w_cV (n := 92) (ro := some (.int (bI (tTrue ((dRun T x (t + 1)).2))))) (R := fun mM' => (va_up mhM_11 (50) (IA G 150 (pgI (upN s1 (4 + (sbN (stepI ((dRun T x t).1)) % ((dRun T x t).2.2.2.2.1))) (sbN (stepI (stepI ((dRun T x t).1))) % 10))))) = mM') (st := [.int (nI (oc))]) (st1 := [.int (bI (tTrue ((dRun T x (t + 1)).2))), .int (nI (oc))]) (As := []) (b := 49) O dX7_drift_89 ul_X7_190 um_X7_rings (f_X7_rings0 (s := upN s1 (4 + (sbN (stepI ((dRun T x t).1)) % ((dRun T x t).2.2.2.2.1))) (sbN (stepI (stepI ((dRun T x t).1))) % 10)) (T := (dRun T x (t + 1)).2) (tm := tm) hW ⟨(va_up_self _ _ _), (pg_gu hpg1 (by omega)), _, _, _, _, _, _, _, _, _, _, _, _, _, _, _, _, ((va_up_ne _ _ (by decide)).trans hphM_11)⟩ okD htm  ⟨rfl, rfl⟩) rfl (by omega) ((va_up_ne _ _ (by decide)).trans hphM_11) rfl rfl rfl rfl (by decide) (Nat.le_of_ble_eq_true rfl) rfl (fun mhM_12 hM_12 => ?_)
              subst hM_12
              refine w_if_eqB (n := 95) (tgt := 99) O dX7_drift_92 (by decide) rfl (fun c_13 => ?_) (fun c_13 => ?_)
              · skip
                refine w_iconst (n := 100) O dX7_drift_99 (v := (nI 0)) (by decide) rfl ?_
                refine w_iaddN (n := 101) O dX7_drift_100 rfl ?_
                have hdo : dVal 0 (dRun T x (t + 1)).2 = 0 := by unfold dVal; rw [if_pos rfl, c_13]; rfl
                refine w_istore (n := 103) (lv' := [(4, .int (nI ((oc + 0)))), (7, .int (nI ((sbN (stepI ((dRun T x t).1)) % ((dRun T x t).2.2.2.2.1))))), (0, .ref (gb_ad G 49)), (1, .int (x)), (2, .int (nI (nn))), (3, .int (nI (z))), (5, .int (nI (su))), (6, .int (nI (t)))]) O dX7_drift_101 (by decide) rfl rfl ?_
                refine w_iload (n := 105) O dX7_drift_103 rfl rfl ?_
                refine w_aload_n (n := 106) O dX7_drift_105 rfl rfl rfl ?_
                refine w_cV (n := 109) (ro := some (.int (oI (pNote (bAm ((dRun T x (t + 1)).2)) (bWt ((dRun T x (t + 1)).2)))))) (R := fun mM' => (va_up mhM_11 (50) (IA G 150 (pgI (upN s1 (4 + (sbN (stepI ((dRun T x t).1)) % ((dRun T x t).2.2.2.2.1))) (sbN (stepI (stepI ((dRun T x t).1))) % 10))))) = mM') (st := [.int (nI (su))]) (st1 := [.int (oI (pNote (bAm ((dRun T x (t + 1)).2)) (bWt ((dRun T x (t + 1)).2)))), .int (nI (su))]) (As := []) (b := 49) O dX7_drift_106 ul_X7_181 um_X7_note (f_X7_note0 (s := upN s1 (4 + (sbN (stepI ((dRun T x t).1)) % ((dRun T x t).2.2.2.2.1))) (sbN (stepI (stepI ((dRun T x t).1))) % 10)) (T := (dRun T x (t + 1)).2) (tm := tm) hW ⟨(va_up_self _ _ _), (pg_gu hpg1 (by omega)), _, _, _, _, _, _, _, _, _, _, _, _, _, _, _, _, ((va_up_ne _ _ (by decide)).trans hphM_11)⟩ okD htm  ⟨rfl, rfl⟩) rfl (by omega) ((va_up_ne _ _ (by decide)).trans hphM_11) rfl rfl rfl rfl (by decide) (Nat.le_of_ble_eq_true rfl) rfl (fun mhM_14 hM_14 => ?_)
                subst hM_14
                refine w_bipush (n := 111) O dX7_drift_109 (v := (-4)) (by decide) rfl ?_
                refine w_icmp_ne (n := 114) (tgt := 118) O dX7_drift_111 (by decide) rfl (fun c_15 => ?_) (fun c_15 => ?_)
                · skip
                  obtain ⟨nt, hnt⟩ := oI_some c_15
                  have hds : dVal 1 (dRun T x (t + 1)).2 = nt := by unfold dVal; rw [if_neg (by decide), hnt]; rfl
                  refine w_aload_n (n := 119) O dX7_drift_118 rfl rfl rfl ?_
                  refine w_cV (n := 122) (ro := some (.int (oI (pNote (bAm ((dRun T x (t + 1)).2)) (bWt ((dRun T x (t + 1)).2)))))) (R := fun mM' => (va_up mhM_11 (50) (IA G 150 (pgI (upN s1 (4 + (sbN (stepI ((dRun T x t).1)) % ((dRun T x t).2.2.2.2.1))) (sbN (stepI (stepI ((dRun T x t).1))) % 10))))) = mM') (st := [.int (nI (su))]) (st1 := [.int (oI (pNote (bAm ((dRun T x (t + 1)).2)) (bWt ((dRun T x (t + 1)).2)))), .int (nI (su))]) (As := []) (b := 49) O dX7_drift_119 ul_X7_181 um_X7_note (f_X7_note0 (s := upN s1 (4 + (sbN (stepI ((dRun T x t).1)) % ((dRun T x t).2.2.2.2.1))) (sbN (stepI (stepI ((dRun T x t).1))) % 10)) (T := (dRun T x (t + 1)).2) (tm := tm) hW ⟨(va_up_self _ _ _), (pg_gu hpg1 (by omega)), _, _, _, _, _, _, _, _, _, _, _, _, _, _, _, _, ((va_up_ne _ _ (by decide)).trans hphM_11)⟩ okD htm  ⟨rfl, rfl⟩) rfl (by omega) ((va_up_ne _ _ (by decide)).trans hphM_11) rfl rfl rfl rfl (by decide) (Nat.le_of_ble_eq_true rfl) rfl (fun mhM_16 hM_16 => ?_)
                  subst hM_16
                  refine w_top (nI nt) (by rw [hnt]; rfl) ?_
                  refine w_iaddN (n := 123) O dX7_drift_122 rfl ?_
                  refine w_istore (n := 125) (lv' := [(5, .int (nI ((su + nt)))), (4, .int (nI ((oc + 0)))), (7, .int (nI ((sbN (stepI ((dRun T x t).1)) % ((dRun T x t).2.2.2.2.1))))), (0, .ref (gb_ad G 49)), (1, .int (x)), (2, .int (nI (nn))), (3, .int (nI (z))), (6, .int (nI (t)))]) O dX7_drift_123 (by decide) rfl rfl ?_
                  refine w_iincN (n := 128) (lv' := [(6, .int (nI (t + 1))), (5, .int (nI ((su + nt)))), (4, .int (nI ((oc + 0)))), (7, .int (nI ((sbN (stepI ((dRun T x t).1)) % ((dRun T x t).2.2.2.2.1))))), (0, .ref (gb_ad G 49)), (1, .int (x)), (2, .int (nI (nn))), (3, .int (nI (z)))]) O dX7_drift_125 rfl (by decide) rfl rfl ?_
                  refine w_goto (tgt := 55) O dX7_drift_128 (by decide) ?_
                  refine w_lv (lv2 := [(0, .ref (gb_ad G 49)), (1, .int (x)), (2, .int (nI (nn))), (3, .int (nI (z))), (4, .int (nI ((oc + 0)))), (5, .int (nI ((su + nt)))), (6, .int (nI (t + 1)))]) [4, 5, 6, 7, 2, 1, 0] rfl ?_
                  exact ih_DL _ (by omega) (t + 1) ((oc + 0)) ((su + nt)) _ _ rfl (by omega) (by simp only [sSum]; rw [← hoc, hdo]) (by simp only [sSum]; rw [← hsu, hds]) (by rw [← hgn]; exact ((va_up_ne _ _ (by decide)).trans hphM_11)) (va_up_self _ _ _) (pg_gu hpg1 (by omega)) (fun k2 h1 h2 => (upN_ne _ _ (by omega)).trans (hag k2 h1 h2)) ((((sm.rf.tr (hs1.mono (by omega) (by omega))).tr (hshM_10.mono (by omega) (by omega))).tr (hshM_11.mono (by omega) (by omega))).up (by omega) (by omega))
                · skip
                  have hnn9 : pNote (bAm ((dRun T x (t + 1)).2)) (bWt ((dRun T x (t + 1)).2)) = none := oI_none (fun k hk => by have := pNote_le (fun m _ => bAm_le okD m) hk; omega) c_15
                  have hds : dVal 1 (dRun T x (t + 1)).2 = 0 := by unfold dVal; rw [if_neg (by decide), hnn9]; rfl
                  refine w_iconst (n := 115) O dX7_drift_114 (v := (nI 0)) (by decide) rfl ?_
                  refine w_goto (tgt := 122) O dX7_drift_115 (by decide) ?_
                  refine w_iaddN (n := 123) O dX7_drift_122 rfl ?_
                  refine w_istore (n := 125) (lv' := [(5, .int (nI ((su + 0)))), (4, .int (nI ((oc + 0)))), (7, .int (nI ((sbN (stepI ((dRun T x t).1)) % ((dRun T x t).2.2.2.2.1))))), (0, .ref (gb_ad G 49)), (1, .int (x)), (2, .int (nI (nn))), (3, .int (nI (z))), (6, .int (nI (t)))]) O dX7_drift_123 (by decide) rfl rfl ?_
                  refine w_iincN (n := 128) (lv' := [(6, .int (nI (t + 1))), (5, .int (nI ((su + 0)))), (4, .int (nI ((oc + 0)))), (7, .int (nI ((sbN (stepI ((dRun T x t).1)) % ((dRun T x t).2.2.2.2.1))))), (0, .ref (gb_ad G 49)), (1, .int (x)), (2, .int (nI (nn))), (3, .int (nI (z)))]) O dX7_drift_125 rfl (by decide) rfl rfl ?_
                  refine w_goto (tgt := 55) O dX7_drift_128 (by decide) ?_
                  refine w_lv (lv2 := [(0, .ref (gb_ad G 49)), (1, .int (x)), (2, .int (nI (nn))), (3, .int (nI (z))), (4, .int (nI ((oc + 0)))), (5, .int (nI ((su + 0)))), (6, .int (nI (t + 1)))]) [4, 5, 6, 7, 2, 1, 0] rfl ?_
                  exact ih_DL _ (by omega) (t + 1) ((oc + 0)) ((su + 0)) _ _ rfl (by omega) (by simp only [sSum]; rw [← hoc, hdo]) (by simp only [sSum]; rw [← hsu, hds]) (by rw [← hgn]; exact ((va_up_ne _ _ (by decide)).trans hphM_11)) (va_up_self _ _ _) (pg_gu hpg1 (by omega)) (fun k2 h1 h2 => (upN_ne _ _ (by omega)).trans (hag k2 h1 h2)) ((((sm.rf.tr (hs1.mono (by omega) (by omega))).tr (hshM_10.mono (by omega) (by omega))).tr (hshM_11.mono (by omega) (by omega))).up (by omega) (by omega))
              · skip
                refine w_iconst (n := 96) O dX7_drift_95 (v := (nI 1)) (by decide) rfl ?_
                refine w_goto (tgt := 100) O dX7_drift_96 (by decide) ?_
                refine w_iaddN (n := 101) O dX7_drift_100 rfl ?_
                have hdo : dVal 0 (dRun T x (t + 1)).2 = 1 := by unfold dVal; rw [if_pos rfl, c_13]; rfl
                refine w_istore (n := 103) (lv' := [(4, .int (nI ((oc + 1)))), (7, .int (nI ((sbN (stepI ((dRun T x t).1)) % ((dRun T x t).2.2.2.2.1))))), (0, .ref (gb_ad G 49)), (1, .int (x)), (2, .int (nI (nn))), (3, .int (nI (z))), (5, .int (nI (su))), (6, .int (nI (t)))]) O dX7_drift_101 (by decide) rfl rfl ?_
                refine w_iload (n := 105) O dX7_drift_103 rfl rfl ?_
                refine w_aload_n (n := 106) O dX7_drift_105 rfl rfl rfl ?_
                refine w_cV (n := 109) (ro := some (.int (oI (pNote (bAm ((dRun T x (t + 1)).2)) (bWt ((dRun T x (t + 1)).2)))))) (R := fun mM' => (va_up mhM_11 (50) (IA G 150 (pgI (upN s1 (4 + (sbN (stepI ((dRun T x t).1)) % ((dRun T x t).2.2.2.2.1))) (sbN (stepI (stepI ((dRun T x t).1))) % 10))))) = mM') (st := [.int (nI (su))]) (st1 := [.int (oI (pNote (bAm ((dRun T x (t + 1)).2)) (bWt ((dRun T x (t + 1)).2)))), .int (nI (su))]) (As := []) (b := 49) O dX7_drift_106 ul_X7_181 um_X7_note (f_X7_note0 (s := upN s1 (4 + (sbN (stepI ((dRun T x t).1)) % ((dRun T x t).2.2.2.2.1))) (sbN (stepI (stepI ((dRun T x t).1))) % 10)) (T := (dRun T x (t + 1)).2) (tm := tm) hW ⟨(va_up_self _ _ _), (pg_gu hpg1 (by omega)), _, _, _, _, _, _, _, _, _, _, _, _, _, _, _, _, ((va_up_ne _ _ (by decide)).trans hphM_11)⟩ okD htm  ⟨rfl, rfl⟩) rfl (by omega) ((va_up_ne _ _ (by decide)).trans hphM_11) rfl rfl rfl rfl (by decide) (Nat.le_of_ble_eq_true rfl) rfl (fun mhM_17 hM_17 => ?_)
                subst hM_17
                refine w_bipush (n := 111) O dX7_drift_109 (v := (-4)) (by decide) rfl ?_
                refine w_icmp_ne (n := 114) (tgt := 118) O dX7_drift_111 (by decide) rfl (fun c_18 => ?_) (fun c_18 => ?_)
                · skip
                  obtain ⟨nt, hnt⟩ := oI_some c_18
                  have hds : dVal 1 (dRun T x (t + 1)).2 = nt := by unfold dVal; rw [if_neg (by decide), hnt]; rfl
                  refine w_aload_n (n := 119) O dX7_drift_118 rfl rfl rfl ?_
                  refine w_cV (n := 122) (ro := some (.int (oI (pNote (bAm ((dRun T x (t + 1)).2)) (bWt ((dRun T x (t + 1)).2)))))) (R := fun mM' => (va_up mhM_11 (50) (IA G 150 (pgI (upN s1 (4 + (sbN (stepI ((dRun T x t).1)) % ((dRun T x t).2.2.2.2.1))) (sbN (stepI (stepI ((dRun T x t).1))) % 10))))) = mM') (st := [.int (nI (su))]) (st1 := [.int (oI (pNote (bAm ((dRun T x (t + 1)).2)) (bWt ((dRun T x (t + 1)).2)))), .int (nI (su))]) (As := []) (b := 49) O dX7_drift_119 ul_X7_181 um_X7_note (f_X7_note0 (s := upN s1 (4 + (sbN (stepI ((dRun T x t).1)) % ((dRun T x t).2.2.2.2.1))) (sbN (stepI (stepI ((dRun T x t).1))) % 10)) (T := (dRun T x (t + 1)).2) (tm := tm) hW ⟨(va_up_self _ _ _), (pg_gu hpg1 (by omega)), _, _, _, _, _, _, _, _, _, _, _, _, _, _, _, _, ((va_up_ne _ _ (by decide)).trans hphM_11)⟩ okD htm  ⟨rfl, rfl⟩) rfl (by omega) ((va_up_ne _ _ (by decide)).trans hphM_11) rfl rfl rfl rfl (by decide) (Nat.le_of_ble_eq_true rfl) rfl (fun mhM_19 hM_19 => ?_)
                  subst hM_19
                  refine w_top (nI nt) (by rw [hnt]; rfl) ?_
                  refine w_iaddN (n := 123) O dX7_drift_122 rfl ?_
                  refine w_istore (n := 125) (lv' := [(5, .int (nI ((su + nt)))), (4, .int (nI ((oc + 1)))), (7, .int (nI ((sbN (stepI ((dRun T x t).1)) % ((dRun T x t).2.2.2.2.1))))), (0, .ref (gb_ad G 49)), (1, .int (x)), (2, .int (nI (nn))), (3, .int (nI (z))), (6, .int (nI (t)))]) O dX7_drift_123 (by decide) rfl rfl ?_
                  refine w_iincN (n := 128) (lv' := [(6, .int (nI (t + 1))), (5, .int (nI ((su + nt)))), (4, .int (nI ((oc + 1)))), (7, .int (nI ((sbN (stepI ((dRun T x t).1)) % ((dRun T x t).2.2.2.2.1))))), (0, .ref (gb_ad G 49)), (1, .int (x)), (2, .int (nI (nn))), (3, .int (nI (z)))]) O dX7_drift_125 rfl (by decide) rfl rfl ?_
                  refine w_goto (tgt := 55) O dX7_drift_128 (by decide) ?_
                  refine w_lv (lv2 := [(0, .ref (gb_ad G 49)), (1, .int (x)), (2, .int (nI (nn))), (3, .int (nI (z))), (4, .int (nI ((oc + 1)))), (5, .int (nI ((su + nt)))), (6, .int (nI (t + 1)))]) [4, 5, 6, 7, 2, 1, 0] rfl ?_
                  exact ih_DL _ (by omega) (t + 1) ((oc + 1)) ((su + nt)) _ _ rfl (by omega) (by simp only [sSum]; rw [← hoc, hdo]) (by simp only [sSum]; rw [← hsu, hds]) (by rw [← hgn]; exact ((va_up_ne _ _ (by decide)).trans hphM_11)) (va_up_self _ _ _) (pg_gu hpg1 (by omega)) (fun k2 h1 h2 => (upN_ne _ _ (by omega)).trans (hag k2 h1 h2)) ((((sm.rf.tr (hs1.mono (by omega) (by omega))).tr (hshM_10.mono (by omega) (by omega))).tr (hshM_11.mono (by omega) (by omega))).up (by omega) (by omega))
                · skip
                  have hnn9 : pNote (bAm ((dRun T x (t + 1)).2)) (bWt ((dRun T x (t + 1)).2)) = none := oI_none (fun k hk => by have := pNote_le (fun m _ => bAm_le okD m) hk; omega) c_18
                  have hds : dVal 1 (dRun T x (t + 1)).2 = 0 := by unfold dVal; rw [if_neg (by decide), hnn9]; rfl
                  refine w_iconst (n := 115) O dX7_drift_114 (v := (nI 0)) (by decide) rfl ?_
                  refine w_goto (tgt := 122) O dX7_drift_115 (by decide) ?_
                  refine w_iaddN (n := 123) O dX7_drift_122 rfl ?_
                  refine w_istore (n := 125) (lv' := [(5, .int (nI ((su + 0)))), (4, .int (nI ((oc + 1)))), (7, .int (nI ((sbN (stepI ((dRun T x t).1)) % ((dRun T x t).2.2.2.2.1))))), (0, .ref (gb_ad G 49)), (1, .int (x)), (2, .int (nI (nn))), (3, .int (nI (z))), (6, .int (nI (t)))]) O dX7_drift_123 (by decide) rfl rfl ?_
                  refine w_iincN (n := 128) (lv' := [(6, .int (nI (t + 1))), (5, .int (nI ((su + 0)))), (4, .int (nI ((oc + 1)))), (7, .int (nI ((sbN (stepI ((dRun T x t).1)) % ((dRun T x t).2.2.2.2.1))))), (0, .ref (gb_ad G 49)), (1, .int (x)), (2, .int (nI (nn))), (3, .int (nI (z)))]) O dX7_drift_125 rfl (by decide) rfl rfl ?_
                  refine w_goto (tgt := 55) O dX7_drift_128 (by decide) ?_
                  refine w_lv (lv2 := [(0, .ref (gb_ad G 49)), (1, .int (x)), (2, .int (nI (nn))), (3, .int (nI (z))), (4, .int (nI ((oc + 1)))), (5, .int (nI ((su + 0)))), (6, .int (nI (t + 1)))]) [4, 5, 6, 7, 2, 1, 0] rfl ?_
                  exact ih_DL _ (by omega) (t + 1) ((oc + 1)) ((su + 0)) _ _ rfl (by omega) (by simp only [sSum]; rw [← hoc, hdo]) (by simp only [sSum]; rw [← hsu, hds]) (by rw [← hgn]; exact ((va_up_ne _ _ (by decide)).trans hphM_11)) (va_up_self _ _ _) (pg_gu hpg1 (by omega)) (fun k2 h1 h2 => (upN_ne _ _ (by omega)).trans (hag k2 h1 h2)) ((((sm.rf.tr (hs1.mono (by omega) (by omega))).tr (hshM_10.mono (by omega) (by omega))).tr (hshM_11.mono (by omega) (by omega))).up (by omega) (by omega))
        refine w_lv (lv2 := [(0, .ref (gb_ad G 49)), (1, .int (x)), (2, .int (nI (nn))), (3, .int (nI (z))), (4, .int (nI 0)), (5, .int (nI 0)), (6, .int (nI 0))]) [3, 4, 5, 6, 2, 1, 0] rfl ?_
        exact DL _ 0 0 0 _ _ rfl (Nat.zero_le _) rfl rfl (va_up_self _ _ _) ((va_up_ne _ _ (by decide)).trans hphM_6) (pg_cp hpg (by omega)) (fun _ _ _ => rfl) ((sm.rf.tr (hshM_6.mono (by omega) (by omega))).up (by omega) (by omega))
      · skip
        refine w_bipush (n := 33) O dX7_drift_31 (v := (-2)) (by decide) rfl ?_
        refine w_iret O dX7_drift_33 ?_
        have e0 : a_drift T x (nI nn) (nI z) = -2 := by unfold a_drift; rw [if_pos (by unfold drOk; rw [hr_nn, hr_z]; rfl), if_pos c_5]
        rw [e0] at hQ
        try dsimp only at hQ
        exact hQ (mM) ⟨_, _, _, _, _, _, _, _, _, _, _, _, _, _, _, _, _, _, _, _, h49, h50, h51, h52, h53, h54, h55, h56, h57, h58, h59, h60, htm, hpg, hIm, hSe, hLa, hLe, hCe⟩ sm.rf
    · skip
      refine w_iconst (n := 23) O dX7_drift_22 (v := (-1)) (by decide) rfl ?_
      refine w_iret O dX7_drift_23 ?_
      have e0 : a_drift T x (nI nn) z0 = -1 := by unfold a_drift; rw [if_neg (by rw [show drOk (nI nn) z0 = false from by simp [drOk, c_4]]; decide)]
      rw [e0] at hQ
      try dsimp only at hQ
      exact hQ (mM) ⟨_, _, _, _, _, _, _, _, _, _, _, _, _, _, _, _, _, _, _, _, h49, h50, h51, h52, h53, h54, h55, h56, h57, h58, h59, h60, htm, hpg, hIm, hSe, hLa, hLe, hCe⟩ sm.rf
