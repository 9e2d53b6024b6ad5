set_option maxRecDepth 100000 in
set_option maxHeartbeats 4000000 in
theorem f_J6_bitCount {G : gb_G} (hW : gW G) {Q : Option Value → gb_M → Prop} {mM : gb_M} {x : Int32} (hQ : Q (some (.int (bcI x))) mM) : Fn G 0 yJ6_bitCount_0f7a4 cJ6_bitCount_0f7a4 1 (some .int) [.int (x)] mM Q := by
  have hN := hW.2.2.1
  refine Fn.of hW.1 [(0, .int (x))] (by decide) (Nat.le_of_ble_eq_true rfl) rfl ?_
  intro X O
  refine w_iload_n (n := 1) O dJ6_bitCount_0f7a4_0 rfl rfl rfl ?_
  refine w_iload_n (n := 2) O dJ6_bitCount_0f7a4_1 rfl rfl rfl ?_
  refine w_iconst (n := 3) O dJ6_bitCount_0f7a4_2 (v := (nI 1)) (by decide) rfl ?_
  refine w_iushr (n := 4) (v := ushI (x) 1) O dJ6_bitCount_0f7a4_3 rfl rfl ?_
  refine w_ldcw (n := 7) O dJ6_bitCount_0f7a4_4 uc_J6_265 rfl ?_
  refine w_iand (n := 8) O dJ6_bitCount_0f7a4_7 rfl ?_
  refine w_isub (n := 9) O dJ6_bitCount_0f7a4_8 rfl ?_
  refine w_nm (fun y1 ey1 => ?_)
  refine w_istore_n (n := 10) (lv' := [(0, .int (y1))]) O dJ6_bitCount_0f7a4_9 rfl (by decide) rfl rfl ?_
  refine w_iload_n (n := 11) O dJ6_bitCount_0f7a4_10 rfl rfl rfl ?_
  refine w_ldcw (n := 14) O dJ6_bitCount_0f7a4_11 uc_J6_266 rfl ?_
  refine w_iand (n := 15) O dJ6_bitCount_0f7a4_14 rfl ?_
  refine w_iload_n (n := 16) O dJ6_bitCount_0f7a4_15 rfl rfl rfl ?_
  refine w_iconst (n := 17) O dJ6_bitCount_0f7a4_16 (v := (nI 2)) (by decide) rfl ?_
  refine w_iushr (n := 18) (v := ushI (y1) 2) O dJ6_bitCount_0f7a4_17 rfl rfl ?_
  refine w_ldcw (n := 21) O dJ6_bitCount_0f7a4_18 uc_J6_266 rfl ?_
  refine w_iand (n := 22) O dJ6_bitCount_0f7a4_21 rfl ?_
  refine w_iadd (n := 23) O dJ6_bitCount_0f7a4_22 rfl ?_
  refine w_nm (fun y2 ey2 => ?_)
  refine w_istore_n (n := 24) (lv' := [(0, .int (y2))]) O dJ6_bitCount_0f7a4_23 rfl (by decide) rfl rfl ?_
  refine w_iload_n (n := 25) O dJ6_bitCount_0f7a4_24 rfl rfl rfl ?_
  refine w_iload_n (n := 26) O dJ6_bitCount_0f7a4_25 rfl rfl rfl ?_
  refine w_iconst (n := 27) O dJ6_bitCount_0f7a4_26 (v := (nI 4)) (by decide) rfl ?_
  refine w_iushr (n := 28) (v := ushI (y2) 4) O dJ6_bitCount_0f7a4_27 rfl rfl ?_
  refine w_iadd (n := 29) O dJ6_bitCount_0f7a4_28 rfl ?_
  refine w_ldcw (n := 32) O dJ6_bitCount_0f7a4_29 uc_J6_267 rfl ?_
  refine w_iand (n := 33) O dJ6_bitCount_0f7a4_32 rfl ?_
  refine w_nm (fun y3 ey3 => ?_)
  refine w_istore_n (n := 34) (lv' := [(0, .int (y3))]) O dJ6_bitCount_0f7a4_33 rfl (by decide) rfl rfl ?_
  refine w_iload_n (n := 35) O dJ6_bitCount_0f7a4_34 rfl rfl rfl ?_
  refine w_iload_n (n := 36) O dJ6_bitCount_0f7a4_35 rfl rfl rfl ?_
  refine w_bipush (n := 38) O dJ6_bitCount_0f7a4_36 (v := (nI 8)) (by decide) rfl ?_
  refine w_iushr (n := 39) (v := ushI (y3) 8) O dJ6_bitCount_0f7a4_38 rfl rfl ?_
  refine w_iadd (n := 40) O dJ6_bitCount_0f7a4_39 rfl ?_
  refine w_nm (fun y4 ey4 => ?_)
  refine w_istore_n (n := 41) (lv' := [(0, .int (y4))]) O dJ6_bitCount_0f7a4_40 rfl (by decide) rfl rfl ?_
  refine w_iload_n (n := 42) O dJ6_bitCount_0f7a4_41 rfl rfl rfl ?_
  refine w_iload_n (n := 43) O dJ6_bitCount_0f7a4_42 rfl rfl rfl ?_
  refine w_bipush (n := 45) O dJ6_bitCount_0f7a4_43 (v := (nI 16)) (by decide) rfl ?_
  refine w_iushr (n := 46) (v := ushI (y4) 16) O dJ6_bitCount_0f7a4_45 rfl rfl ?_
  refine w_iadd (n := 47) O dJ6_bitCount_0f7a4_46 rfl ?_
  refine w_nm (fun y5 ey5 => ?_)
  refine w_istore_n (n := 48) (lv' := [(0, .int (y5))]) O dJ6_bitCount_0f7a4_47 rfl (by decide) rfl rfl ?_
  refine w_iload_n (n := 49) O dJ6_bitCount_0f7a4_48 rfl rfl rfl ?_
  refine w_bipush (n := 51) O dJ6_bitCount_0f7a4_49 (v := (nI 63)) (by decide) rfl ?_
  refine w_iand (n := 52) O dJ6_bitCount_0f7a4_51 rfl ?_
  refine w_iret O dJ6_bitCount_0f7a4_52 ?_
  subst ey5; subst ey4; subst ey3; subst ey2; subst ey1
  exact hQ
set_option maxRecDepth 100000 in
set_option maxHeartbeats 4000000 in
theorem f_X6_spare {G : gb_G} (hW : gW G) {Q : Option Value → gb_M → Prop} {mM : gb_M} {T : Tw} {im : Nat → Tw} {kp : Nat → Bool} {bs : Nat → Nat} {ln fa : Nat} {st sf : Nat → Nat} {sn : Nat} {sh : Sh} {sc : Nat → Nat → Int32} {tn : Nat} (hC : isCW G mM T im kp bs ln fa st sf sn sh sc tn) {x : Int32}  (hQ : ∀ M', isCW G M' T im kp bs ln fa st sf sn sh sc tn → sm mM M' 0 48 → Q (some (.int (a_spare T x))) M') : Fn G 6 yX6_spare cX6_spare 6 (some .int) [.ref (gb_ad G 0), .int (x)] mM Q := by
  obtain ⟨hB, hT, hok, hU, hMx, hP, hS, hG, hI, hK, hH⟩ := hC
  have ok := hok.1
  have hn4 := ok.1
  have hst9 := hok.2.1
  have hln := hok.2.2.2.1
  have hsn6 := hok.2.2.2.2.2.2.1
  obtain ⟨pa, am, w, hM, hp⟩ := hMx
  have hN := hW.2.2.1
  refine Fn.of hW.1 [(0, .ref (gb_ad G 0)), (1, .int (x))] (by decide) (Nat.le_of_ble_eq_true rfl) rfl ?_
  intro X O
  refine w_iload_n (n := 1) O dX6_spare_0 rfl rfl rfl ?_
  refine w_iconst (n := 2) O dX6_spare_1 (v := (nI 0)) (by decide) rfl ?_
  refine w_iconst (n := 3) O dX6_spare_2 (v := (nI 1)) (by decide) rfl ?_
  refine w_cS (n := 6) (ro := some (.int (bI (wIn (x) (nI (0)) (nI (1)))))) (R := fun mM' => mM = mM') (st := []) (st1 := [.int (bI (wIn (x) (nI (0)) (nI (1))))]) (As := [.int (x), .int (nI 0), .int (nI 1)]) O dX6_spare_3 ul_X6_66 um_X6_within (f_X6_within hW ⟨rfl, rfl⟩) rfl rfl rfl (by decide) (Nat.le_of_ble_eq_true rfl) rfl (fun mhM_1 hM_1 => ?_)
  subst hM_1
  refine w_if_neB (n := 9) (tgt := 11) O dX6_spare_6 (by decide) rfl (fun c_2 => ?_) (fun c_2 => ?_)
  · skip
    have hr_j := c_2
    obtain ⟨j, ja, jb, rfl⟩ := wIn_t (by omega) c_2 (by omega)
    have cl_j : (nI j).toNatClampNeg = j := nI_clamp (by omega)
    have hp16 := pow4 hn4
    refine w_bipush (n := 13) O dX6_spare_11 (v := (-4)) (by decide) rfl ?_
    refine w_istore_n (n := 14) (lv' := [(2, .int (-4)), (0, .ref (gb_ad G 0)), (1, .int (nI (j)))]) O dX6_spare_13 rfl (by decide) rfl rfl ?_
    refine w_bipush (n := 16) O dX6_spare_14 (v := (-4)) (by decide) rfl ?_
    refine w_istore_n (n := 17) (lv' := [(3, .int (-4)), (2, .int (-4)), (0, .ref (gb_ad G 0)), (1, .int (nI (j)))]) O dX6_spare_16 rfl (by decide) rfl rfl ?_
    refine w_iconst (n := 18) O dX6_spare_17 (v := (nI 0)) (by decide) rfl ?_
    refine w_istore (n := 20) (lv' := [(4, .int (nI 0)), (3, .int (-4)), (2, .int (-4)), (0, .ref (gb_ad G 0)), (1, .int (nI (j)))]) O dX6_spare_18 (by decide) rfl rfl ?_
    have SA : ∀ (k : Nat) (k2 : Nat) (o : Option (Nat × Nat)) (m1 : gb_M) (pa1 am1 : Nat → Nat) (w1 : Nat), 2 ^ T.2.2.2.1 - k2 = k → k2 ≤ 2 ^ T.2.2.2.1 → o = spB T k2 → isM G m1 pa1 am1 w1 → okP pa1 → sm mM m1 9 11 → Wm G X 6 Q 20 [(0, .ref (gb_ad G 0)), (1, .int (nI (j))), (2, .int (oI (o.map (·.1)))), (3, .int (oI (o.map (·.2)))), (4, .int (nI (k2)))] [] m1 := by
      intro k
      induction k using Nat.strongRecOn with
      | ind k ih_SA =>
        intro k2 o m1 pa1 am1 w1 hk hk2 ho hM1 hp1 hs1
        have hob : ∀ q, o = some q → q.1 ≤ 4 := fun q hq => (spB_in (ho.symm.trans hq)).1
        refine w_iload (n := 22) O dX6_spare_20 rfl rfl ?_
        refine w_iconst (n := 23) O dX6_spare_22 (v := (nI 1)) (by decide) rfl ?_
        refine w_aload_n (n := 24) O dX6_spare_23 rfl rfl rfl ?_
        refine w_getf (n := 27) O 0 dX6_spare_24 (by omega) ((hs1 (0) (by omega)).trans hB) rfl (by decide) uX6 uf_X6_10 rfl rfl ?_
        refine w_getf (n := 30) O 3 dX6_spare_27 (by omega) ((hs1 (1) (by omega)).trans hT.1) rfl (by decide) uX5 uf_X6_94 rfl rfl ?_
        refine w_ishl (n := 31) O dX6_spare_30 rfl ?_
        refine w_top (nI (2 ^ T.2.2.2.1)) (by rw [nI_shl (by omega) (by rw [Nat.one_mul]; omega), Nat.one_mul]) ?_
        refine w_icmp_geN (n := 34) (tgt := 136) O dX6_spare_31 (by omega) (by omega) (by decide) rfl (fun c_3 => ?_) (fun c_3 => ?_)
        · skip
          refine w_iload_n (n := 137) O dX6_spare_136 rfl rfl rfl ?_
          refine w_if_neN (n := 140) (tgt := 144) O dX6_spare_137 (by omega) (by decide) rfl (fun c_4 => ?_) (fun c_4 => ?_)
          · skip
            refine w_iload_n (n := 145) O dX6_spare_144 rfl rfl rfl ?_
            refine w_iret O dX6_spare_145 ?_
            have e0 : a_spare T (nI j) = (oI (o.map (·.2))) := by unfold a_spare; rw [if_pos hr_j, show 2 ^ T.2.2.2.1 = k2 by omega, ← ho]; exact if_neg (fun e => c_4 ((nI_eq (by omega) (by omega)).mp e))
            rw [e0] at hQ
            try dsimp only at hQ
            exact hQ _ ⟨((hs1 (0) (by omega)).trans hB), ⟨((hs1 (1) (by omega)).trans hT.1), ((hs1 (2) (by omega)).trans hT.2.1), ((hs1 (3) (by omega)).trans hT.2.2.1), ((hs1 (4) (by omega)).trans hT.2.2.2)⟩, hok, (hU.kp (kp_sm hs1 (by omega))), ⟨_, _, _, ⟨hM1.1, hM1.2.1, hM1.2.2⟩, hp1⟩, (hP.kp (kp_sm hs1 (by omega))), (hS.kp (kp_sm hs1 (by omega))), (hG.kp (kp_sm hs1 (by omega))), (hI.kp (kp_sm hs1 (by omega))), ((hs1 (39) (by omega)).trans hK), (hH.kp (kp_sm hs1 (by omega)))⟩ (sm.rf.tr (hs1.mono (by omega) (by omega)))
          · skip
            refine w_iload_n (n := 141) O dX6_spare_140 rfl rfl rfl ?_
            refine w_goto (tgt := 145) O dX6_spare_141 (by decide) ?_
            refine w_iret O dX6_spare_145 ?_
            have e0 : a_spare T (nI j) = (oI (o.map (·.1))) := by unfold a_spare; rw [if_pos hr_j, show 2 ^ T.2.2.2.1 = k2 by omega, ← ho]; exact if_pos (by rw [c_4])
            rw [e0] at hQ
            try dsimp only at hQ
            exact hQ _ ⟨((hs1 (0) (by omega)).trans hB), ⟨((hs1 (1) (by omega)).trans hT.1), ((hs1 (2) (by omega)).trans hT.2.1), ((hs1 (3) (by omega)).trans hT.2.2.1), ((hs1 (4) (by omega)).trans hT.2.2.2)⟩, hok, (hU.kp (kp_sm hs1 (by omega))), ⟨_, _, _, ⟨hM1.1, hM1.2.1, hM1.2.2⟩, hp1⟩, (hP.kp (kp_sm hs1 (by omega))), (hS.kp (kp_sm hs1 (by omega))), (hG.kp (kp_sm hs1 (by omega))), (hI.kp (kp_sm hs1 (by omega))), ((hs1 (39) (by omega)).trans hK), (hH.kp (kp_sm hs1 (by omega)))⟩ (sm.rf.tr (hs1.mono (by omega) (by omega)))
        · skip
          refine w_aload_n (n := 35) O dX6_spare_34 rfl rfl rfl ?_
          refine w_getf (n := 38) O 2 dX6_spare_35 (by omega) ((hs1 (0) (by omega)).trans hB) rfl (by decide) uX6 uf_X6_22 rfl rfl ?_
          refine w_aload_n (n := 39) O dX6_spare_38 rfl rfl rfl ?_
          refine w_getf (n := 42) O 0 dX6_spare_39 (by omega) ((hs1 (0) (by omega)).trans hB) rfl (by decide) uX6 uf_X6_10 rfl rfl ?_
          refine w_cV (n := 45) (ro := none) (R := fun mM' => isM G mM' (fun k => if k < T.2.2.2.1 then tGives T k else pa1 k) (am1) (w1) ∧ sm m1 mM' 9 11) (st := []) (st1 := []) (As := [.ref (gb_ad G 1)]) (b := 9) O dX6_spare_42 ul_X6_169 um_X1_gather (f_X1_gather (T := T) hW ⟨((hs1 (1) (by omega)).trans hT.1), ((hs1 (2) (by omega)).trans hT.2.1), ((hs1 (3) (by omega)).trans hT.2.2.1), ((hs1 (4) (by omega)).trans hT.2.2.2)⟩ (by omega) ok (by omega) ⟨hM1.1, hM1.2.1, hM1.2.2⟩ (fun M' h1 h2 => ⟨rfl, h1, h2⟩)) rfl (by omega) hM1.1 rfl rfl rfl rfl (by decide) (Nat.le_of_ble_eq_true rfl) rfl (fun mhM_5 hM_5 => ?_)
          obtain ⟨hMhM_5, hshM_5⟩ := hM_5
          refine w_iconst (n := 46) O dX6_spare_45 (v := (nI 0)) (by decide) rfl ?_
          refine w_istore (n := 48) (lv' := [(5, .int (nI 0)), (0, .ref (gb_ad G 0)), (1, .int (nI (j))), (2, .int (oI (o.map (·.1)))), (3, .int (oI (o.map (·.2)))), (4, .int (nI (k2)))]) O dX6_spare_46 (by decide) rfl rfl ?_
          have SB : ∀ (k : Nat) (i : Nat) (m2 : gb_M) (pa2 am2 : Nat → Nat) (w2 : Nat), T.2.2.2.1 - i = k → i ≤ T.2.2.2.1 → (∀ g, g < T.2.2.2.1 → pa2 g = if g < i then offP T k2 g else tGives T g) → isM G m2 pa2 am2 w2 → okP pa2 → sm mM m2 9 11 → Wm G X 6 Q 48 [(0, .ref (gb_ad G 0)), (1, .int (nI (j))), (2, .int (oI (o.map (·.1)))), (3, .int (oI (o.map (·.2)))), (4, .int (nI (k2))), (5, .int (nI (i)))] [] m2 := by
            intro k
            induction k using Nat.strongRecOn with
            | ind k ih_SB =>
              intro i m2 pa2 am2 w2 hk hi hpa hM2 hp2 hs2
              refine w_iload (n := 50) O dX6_spare_48 rfl rfl ?_
              refine w_aload_n (n := 51) O dX6_spare_50 rfl rfl rfl ?_
              refine w_getf (n := 54) O 0 dX6_spare_51 (by omega) ((hs2 (0) (by omega)).trans hB) rfl (by decide) uX6 uf_X6_10 rfl rfl ?_
              refine w_getf (n := 57) O 3 dX6_spare_54 (by omega) ((hs2 (1) (by omega)).trans hT.1) rfl (by decide) uX5 uf_X6_94 rfl rfl ?_
              refine w_icmp_geN (n := 60) (tgt := 87) O dX6_spare_57 (by omega) (by omega) (by decide) rfl (fun c_6 => ?_) (fun c_6 => ?_)
              · skip
                refine w_aload_n (n := 88) O dX6_spare_87 rfl rfl rfl ?_
                refine w_getf (n := 91) O 2 dX6_spare_88 (by omega) ((hs2 (0) (by omega)).trans hB) rfl (by decide) uX6 uf_X6_22 rfl rfl ?_
                refine w_aload_n (n := 92) O dX6_spare_91 rfl rfl rfl ?_
                refine w_getf (n := 95) O 0 dX6_spare_92 (by omega) ((hs2 (0) (by omega)).trans hB) rfl (by decide) uX6 uf_X6_10 rfl rfl ?_
                refine w_cV (n := 98) (ro := none) (R := fun mM' => isM G mM' (pa2) (mAm T pa2) (mWt T pa2) ∧ sm m2 mM' 9 11) (st := []) (st1 := []) (As := [.ref (gb_ad G 1)]) (b := 9) O dX6_spare_95 ul_X6_172 um_X1_pour (f_X1_pour (T := T) hW ⟨((hs2 (1) (by omega)).trans hT.1), ((hs2 (2) (by omega)).trans hT.2.1), ((hs2 (3) (by omega)).trans hT.2.2.1), ((hs2 (4) (by omega)).trans hT.2.2.2)⟩ (by omega) ok (by omega) ⟨hM2.1, hM2.2.1, hM2.2.2⟩ hp2 (fun M' h1 h2 => ⟨rfl, h1, h2⟩)) rfl (by omega) hM2.1 rfl rfl rfl rfl (by decide) (Nat.le_of_ble_eq_true rfl) rfl (fun mhM_7 hM_7 => ?_)
                obtain ⟨hMhM_7, hshM_7⟩ := hM_7
                have hag2 : ∀ g, g < T.2.2.2.1 → pa2 g = offP T k2 g := fun g hg => by rw [hpa g hg, if_pos (by omega)]
                have eoff : pTrue T (mAm T pa2) (mWt T pa2) = offB T k2 := by unfold offB; rw [mAm_cong hag2, mWt_cong hag2]
                refine w_aload_n (n := 99) O dX6_spare_98 rfl rfl rfl ?_
                refine w_getf (n := 102) O 2 dX6_spare_99 (by omega) ((hshM_7 (0) (by omega)).trans ((hs2 (0) (by omega)).trans hB)) rfl (by decide) uX6 uf_X6_22 rfl rfl ?_
                refine w_aload_n (n := 103) O dX6_spare_102 rfl rfl rfl ?_
                refine w_getf (n := 106) O 0 dX6_spare_103 (by omega) ((hshM_7 (0) (by omega)).trans ((hs2 (0) (by omega)).trans hB)) rfl (by decide) uX6 uf_X6_10 rfl rfl ?_
                refine w_cV (n := 109) (ro := some (.int (bI (pTrue T (mAm T pa2) (mWt T pa2))))) (R := fun mM' => mhM_7 = mM') (st := []) (st1 := [.int (bI (pTrue T (mAm T pa2) (mWt T pa2)))]) (As := [.ref (gb_ad G 1)]) (b := 9) O dX6_spare_106 ul_X6_146 um_X1_isTrue (f_X1_isTrue (T := T) hW ⟨((hshM_7 (1) (by omega)).trans ((hs2 (1) (by omega)).trans hT.1)), ((hshM_7 (2) (by omega)).trans ((hs2 (2) (by omega)).trans hT.2.1)), ((hshM_7 (3) (by omega)).trans ((hs2 (3) (by omega)).trans hT.2.2.1)), ((hshM_7 (4) (by omega)).trans ((hs2 (4) (by omega)).trans hT.2.2.2))⟩ (by omega) ok (by omega) ⟨hMhM_7.1, hMhM_7.2.1, hMhM_7.2.2⟩ (fun m _ => mAm_le ok hp2 m) (mWt_le ok hp2 (Nat.le_refl 3)) ⟨rfl, rfl⟩) rfl (by omega) hMhM_7.1 rfl rfl rfl rfl (by decide) (Nat.le_of_ble_eq_true rfl) rfl (fun mhM_8 hM_8 => ?_)
                subst hM_8
                refine w_if_eqB (n := 112) (tgt := 130) O dX6_spare_109 (by decide) rfl (fun c_9 => ?_) (fun c_9 => ?_)
                · skip
                  refine w_iincN (n := 133) (lv' := [(4, .int (nI (k2 + 1))), (0, .ref (gb_ad G 0)), (1, .int (nI (j))), (2, .int (oI (o.map (·.1)))), (3, .int (oI (o.map (·.2)))), (5, .int (nI (i)))]) O dX6_spare_130 rfl (by decide) rfl rfl ?_
                  refine w_goto (tgt := 20) O dX6_spare_133 (by decide) ?_
                  refine w_lv (lv2 := [(0, .ref (gb_ad G 0)), (1, .int (nI (j))), (2, .int (oI (o.map (·.1)))), (3, .int (oI (o.map (·.2)))), (4, .int (nI (k2 + 1)))]) [1, 2, 3, 4, 0] rfl ?_
                  exact ih_SA _ (by omega) (k2 + 1) o _ _ _ _ rfl (by omega) (by unfold spB; rw [if_neg (fun z => by have z1 := z.1; rw [← eoff, c_9] at z1; exact absurd z1 (by decide))]; exact ho) ⟨hMhM_7.1, hMhM_7.2.1, hMhM_7.2.2⟩ hp2 ((sm.rf.tr (hs2.mono (by omega) (by omega))).tr (hshM_7.mono (by omega) (by omega)))
                · skip
                  refine w_iload (n := 114) O dX6_spare_112 rfl rfl ?_
                  refine w_cS (n := 117) (ro := some (.int (nI (bc k2)))) (R := fun mM' => mhM_7 = mM') (st := []) (st1 := [.int (nI (bc k2))]) (As := [.int (nI (k2))]) O dX6_spare_114 ul_X6_188 um_J6_bitCount_0f7a4 (f_J6_bitCount hW ⟨by rw [bcI_ok _ (by omega)], rfl⟩) rfl rfl rfl (by decide) (Nat.le_of_ble_eq_true rfl) rfl (fun mhM_10 hM_10 => ?_)
                  subst hM_10
                  refine w_iload_n (n := 118) O dX6_spare_117 rfl rfl rfl ?_
                  refine w_icmp_le (n := 121) (tgt := 130) O dX6_spare_118 (by decide) rfl (fun c_11 => ?_) (fun c_11 => ?_)
                  · skip
                    refine w_iincN (n := 133) (lv' := [(4, .int (nI (k2 + 1))), (0, .ref (gb_ad G 0)), (1, .int (nI (j))), (2, .int (oI (o.map (·.1)))), (3, .int (oI (o.map (·.2)))), (5, .int (nI (i)))]) O dX6_spare_130 rfl (by decide) rfl rfl ?_
                    refine w_goto (tgt := 20) O dX6_spare_133 (by decide) ?_
                    refine w_lv (lv2 := [(0, .ref (gb_ad G 0)), (1, .int (nI (j))), (2, .int (oI (o.map (·.1)))), (3, .int (oI (o.map (·.2)))), (4, .int (nI (k2 + 1)))]) [1, 2, 3, 4, 0] rfl ?_
                    exact ih_SA _ (by omega) (k2 + 1) o _ _ _ _ rfl (by omega) (by unfold spB; rw [if_neg (fun z => by obtain ⟨q, h1, h2⟩ := (le_oI (bc_le k2) hob).mp c_11; have := z.2 q (ho.symm.trans h1); omega)]; exact ho) ⟨hMhM_7.1, hMhM_7.2.1, hMhM_7.2.2⟩ hp2 ((sm.rf.tr (hs2.mono (by omega) (by omega))).tr (hshM_7.mono (by omega) (by omega)))
                  · skip
                    refine w_iload (n := 123) O dX6_spare_121 rfl rfl ?_
                    refine w_cS (n := 126) (ro := some (.int (nI (bc k2)))) (R := fun mM' => mhM_7 = mM') (st := []) (st1 := [.int (nI (bc k2))]) (As := [.int (nI (k2))]) O dX6_spare_123 ul_X6_188 um_J6_bitCount_0f7a4 (f_J6_bitCount hW ⟨by rw [bcI_ok _ (by omega)], rfl⟩) rfl rfl rfl (by decide) (Nat.le_of_ble_eq_true rfl) rfl (fun mhM_12 hM_12 => ?_)
                    subst hM_12
                    refine w_istore_n (n := 127) (lv' := [(2, .int (nI (bc k2))), (0, .ref (gb_ad G 0)), (1, .int (nI (j))), (3, .int (oI (o.map (·.2)))), (4, .int (nI (k2))), (5, .int (nI (i)))]) O dX6_spare_126 rfl (by decide) rfl rfl ?_
                    refine w_iload (n := 129) O dX6_spare_127 rfl rfl ?_
                    refine w_istore_n (n := 130) (lv' := [(3, .int (nI (k2))), (2, .int (nI (bc k2))), (0, .ref (gb_ad G 0)), (1, .int (nI (j))), (4, .int (nI (k2))), (5, .int (nI (i)))]) O dX6_spare_129 rfl (by decide) rfl rfl ?_
                    refine w_iincN (n := 133) (lv' := [(4, .int (nI (k2 + 1))), (3, .int (nI (k2))), (2, .int (nI (bc k2))), (0, .ref (gb_ad G 0)), (1, .int (nI (j))), (5, .int (nI (i)))]) O dX6_spare_130 rfl (by decide) rfl rfl ?_
                    refine w_goto (tgt := 20) O dX6_spare_133 (by decide) ?_
                    refine w_lv (lv2 := [(0, .ref (gb_ad G 0)), (1, .int (nI (j))), (2, .int (nI (bc k2))), (3, .int (nI (k2))), (4, .int (nI (k2 + 1)))]) [3, 4, 2, 1, 0] rfl ?_
                    exact ih_SA _ (by omega) (k2 + 1) (some (bc k2, k2)) _ _ _ _ rfl (by omega) (by unfold spB; rw [if_pos ⟨eoff.symm.trans c_9, fun q hq => Nat.lt_of_not_le (fun z => c_11 ((le_oI (bc_le k2) hob).mpr ⟨q, ho.trans hq, z⟩))⟩]) ⟨hMhM_7.1, hMhM_7.2.1, hMhM_7.2.2⟩ hp2 ((sm.rf.tr (hs2.mono (by omega) (by omega))).tr (hshM_7.mono (by omega) (by omega)))
              · skip
                refine w_iload (n := 62) O dX6_spare_60 rfl rfl ?_
                refine w_iload (n := 64) O dX6_spare_62 rfl rfl ?_
                refine w_cS (n := 67) (ro := some (.int (bI (hasB (k2) (i))))) (R := fun mM' => m2 = mM') (st := []) (st1 := [.int (bI (hasB (k2) (i)))]) (As := [.int (nI (k2)), .int (nI (i))]) O dX6_spare_64 ul_X6_184 um_X6_has (f_X6_has hW (by omega) (by omega) ⟨rfl, rfl⟩) rfl rfl rfl (by decide) (Nat.le_of_ble_eq_true rfl) rfl (fun mhM_13 hM_13 => ?_)
                subst hM_13
                refine w_if_eqB (n := 70) (tgt := 81) O dX6_spare_67 (by decide) rfl (fun c_14 => ?_) (fun c_14 => ?_)
                · skip
                  refine w_iincN (n := 84) (lv' := [(5, .int (nI (i + 1))), (0, .ref (gb_ad G 0)), (1, .int (nI (j))), (2, .int (oI (o.map (·.1)))), (3, .int (oI (o.map (·.2)))), (4, .int (nI (k2)))]) O dX6_spare_81 rfl (by decide) rfl rfl ?_
                  refine w_goto (tgt := 48) O dX6_spare_84 (by decide) ?_
                  refine w_lv (lv2 := [(0, .ref (gb_ad G 0)), (1, .int (nI (j))), (2, .int (oI (o.map (·.1)))), (3, .int (oI (o.map (·.2)))), (4, .int (nI (k2))), (5, .int (nI (i + 1)))]) [1, 2, 3, 4, 5, 0] rfl ?_
                  exact ih_SB _ (by omega) (i + 1) _ _ _ _ rfl (by omega) (fun g hg => by rw [hpa g hg]; by_cases e : g = i; (rw [e, if_neg (Nat.lt_irrefl i), if_pos (by omega)]; exact (if_neg (by rw [c_14]; decide)).symm); (by_cases e2 : g < i; (rw [if_pos e2, if_pos (by omega)]); (rw [if_neg e2, if_neg (by omega)]))) ⟨hM2.1, hM2.2.1, hM2.2.2⟩ hp2 (sm.rf.tr (hs2.mono (by omega) (by omega)))
                · skip
                  refine w_aload_n (n := 71) O dX6_spare_70 rfl rfl rfl ?_
                  refine w_getf (n := 74) O 2 dX6_spare_71 (by omega) ((hs2 (0) (by omega)).trans hB) rfl (by decide) uX6 uf_X6_22 rfl rfl ?_
                  refine w_getf (n := 77) O 0 dX6_spare_74 (by omega) hM2.1 rfl (by decide) uX1 uf_X6_153 rfl rfl ?_
                  refine w_iload (n := 79) O dX6_spare_77 rfl rfl ?_
                  refine w_iconst (n := 80) O dX6_spare_79 (v := (nI 0)) (by decide) rfl ?_
                  refine w_iastN (n := 81) O dX6_spare_80 hW.2.1 (by omega) hM2.2.1 (by omega) (by decide) rfl ?_
                  refine w_iincN (n := 84) (lv' := [(5, .int (nI (i + 1))), (0, .ref (gb_ad G 0)), (1, .int (nI (j))), (2, .int (oI (o.map (·.1)))), (3, .int (oI (o.map (·.2)))), (4, .int (nI (k2)))]) O dX6_spare_81 rfl (by decide) rfl rfl ?_
                  refine w_goto (tgt := 48) O dX6_spare_84 (by decide) ?_
                  refine w_lv (lv2 := [(0, .ref (gb_ad G 0)), (1, .int (nI (j))), (2, .int (oI (o.map (·.1)))), (3, .int (oI (o.map (·.2)))), (4, .int (nI (k2))), (5, .int (nI (i + 1)))]) [1, 2, 3, 4, 5, 0] rfl ?_
                  exact ih_SB _ (by omega) (i + 1) _ _ _ _ rfl (by omega) (fun g hg => by by_cases e : g = i; (rw [e, upN_self, if_pos (by omega)]; exact (if_pos c_14).symm); (rw [upN_ne _ _ e, hpa g hg]; by_cases e2 : g < i; (rw [if_pos e2, if_pos (by omega)]); (rw [if_neg e2, if_neg (by omega)]))) ⟨((va_up_ne _ _ (by decide)).trans hM2.1), (va_up_self _ _ _), ((va_up_ne _ _ (by decide)).trans hM2.2.2)⟩ (okP_up hp2 (by omega)) ((sm.rf.tr (hs2.mono (by omega) (by omega))).up (by omega) (by omega))
          refine w_lv (lv2 := [(0, .ref (gb_ad G 0)), (1, .int (nI (j))), (2, .int (oI (o.map (·.1)))), (3, .int (oI (o.map (·.2)))), (4, .int (nI (k2))), (5, .int (nI 0))]) [1, 2, 3, 4, 5, 0] rfl ?_
          exact SB _ 0 _ _ _ _ rfl (Nat.zero_le _) (fun g hg => by rw [if_neg (Nat.not_lt_zero g)]; exact if_pos hg) ⟨hMhM_5.1, hMhM_5.2.1, hMhM_5.2.2⟩ (okP_gp ok hp1) ((sm.rf.tr (hs1.mono (by omega) (by omega))).tr (hshM_5.mono (by omega) (by omega)))
    refine w_lv (lv2 := [(0, .ref (gb_ad G 0)), (1, .int (nI (j))), (2, .int (-4)), (3, .int (-4)), (4, .int (nI 0))]) [3, 4, 2, 1, 0] rfl ?_
    exact SA _ 0 none mM pa am w rfl (Nat.zero_le _) rfl hM hp sm.rf
  · skip
    refine w_iconst (n := 10) O dX6_spare_9 (v := (-1)) (by decide) rfl ?_
    refine w_iret O dX6_spare_10 ?_
    have e0 : a_spare T x = -1 := by unfold a_spare; rw [if_neg (by rw [c_2]; decide)]
    rw [e0] at hQ
    try dsimp only at hQ
    exact hQ _ ⟨hB, ⟨hT.1, hT.2.1, hT.2.2.1, hT.2.2.2⟩, hok, hU, ⟨_, _, _, ⟨hM.1, hM.2.1, hM.2.2⟩, hp⟩, hP, hS, hG, hI, hK, hH⟩ sm.rf
set_option maxRecDepth 100000 in
set_option maxHeartbeats 4000000 in
theorem f_X6_stepSeed {G : gb_G} (hW : gW G) {Q : Option Value → gb_M → Prop} {mM : gb_M} {x : Int32} (hQ : Q (some (.int (stepI x))) mM) : Fn G 0 yX6_stepSeed cX6_stepSeed 1 (some .int) [.int (x)] mM Q := by
  have hN := hW.2.2.1
  refine Fn.of hW.1 [(0, .int (x))] (by decide) (Nat.le_of_ble_eq_true rfl) rfl ?_
  intro X O
  refine w_iload_n (n := 1) O dX6_stepSeed_0 rfl rfl rfl ?_
  refine w_ldcw (n := 4) O dX6_stepSeed_1 uc_X6_282 rfl ?_
  refine w_imul (n := 5) O dX6_stepSeed_4 rfl ?_
  refine w_sipush (n := 8) O dX6_stepSeed_5 (v := (nI 12345)) (by decide) rfl ?_
  refine w_iadd (n := 9) O dX6_stepSeed_8 rfl ?_
  refine w_iret O dX6_stepSeed_9 ?_
  exact hQ
set_option maxRecDepth 100000 in
set_option maxHeartbeats 4000000 in
theorem f_X6_seedBits {G : gb_G} (hW : gW G) {Q : Option Value → gb_M → Prop} {mM : gb_M} {x : Int32} (hQ : Q (some (.int (nI (sbN x)))) mM) : Fn G 0 yX6_seedBits cX6_seedBits 1 (some .int) [.int (x)] mM Q := by
  have hN := hW.2.2.1
  refine Fn.of hW.1 [(0, .int (x))] (by decide) (Nat.le_of_ble_eq_true rfl) rfl ?_
  intro X O
  refine w_iload_n (n := 1) O dX6_seedBits_0 rfl rfl rfl ?_
  refine w_bipush (n := 3) O dX6_seedBits_1 (v := (nI 16)) (by decide) rfl ?_
  refine w_ishr (n := 4) O dX6_seedBits_3 rfl ?_
  refine w_sipush (n := 7) O dX6_seedBits_4 (v := (nI 32767)) (by decide) rfl ?_
  refine w_iand (n := 8) O dX6_seedBits_7 rfl ?_
  refine w_iret O dX6_seedBits_8 ?_
  rw [← sbN_ok] at hQ
  exact hQ
set_option maxRecDepth 100000 in
set_option maxHeartbeats 4000000 in
theorem f_X6_drift {G : gb_G} (hW : gW G) {Q : Option Value → gb_M → Prop} {mM : gb_M} {T : Tw} {im : Nat → Tw} {kp : Nat → Bool} {bs : Nat → Nat} {ln fa : Nat} {st sf : Nat → Nat} {sn : Nat} {sh : Sh} {sc : Nat → Nat → Int32} {tn : Nat} (hC : isCW G mM T im kp bs ln fa st sf sn sh sc tn) {x n z : Int32}  (hQ : ∀ M', isCW G M' T im kp bs ln fa st sf sn sh sc tn → sm mM M' 0 48 → Q (some (.int (a_drift T x n z))) M') : Fn G 7 yX6_drift cX6_drift 9 (some .int) [.ref (gb_ad G 0), .int (x), .int (n), .int (z)] mM Q := by
  obtain ⟨hB, hT, hok, hU, hMx, hP, hS, hG, hI, hK, hH⟩ := hC
  have ok := hok.1
  have hn4 := ok.1
  have hst9 := hok.2.1
  have hln := hok.2.2.2.1
  have hsn6 := hok.2.2.2.2.2.2.1
  obtain ⟨U, hU⟩ := hU
  obtain ⟨pa, am, w, hM, hp⟩ := hMx
  have hN := hW.2.2.1
  refine Fn.of hW.1 [(0, .ref (gb_ad G 0)), (1, .int (x)), (2, .int (n)), (3, .int (z))] (by decide) (Nat.le_of_ble_eq_true rfl) rfl ?_
  intro X O
  refine w_iload_n (n := 1) O dX6_drift_0 rfl rfl rfl ?_
  refine w_iconst (n := 2) O dX6_drift_1 (v := (nI 1)) (by decide) rfl ?_
  refine w_bipush (n := 4) O dX6_drift_2 (v := (nI 60)) (by decide) rfl ?_
  refine w_cS (n := 7) (ro := some (.int (bI (wIn (n) (nI (1)) (nI (60)))))) (R := fun mM' => mM = mM') (st := []) (st1 := [.int (bI (wIn (n) (nI (1)) (nI (60))))]) (As := [.int (n), .int (nI 1), .int (nI 60)]) O dX6_drift_4 ul_X6_66 um_X6_within (f_X6_within hW ⟨rfl, rfl⟩) rfl rfl rfl (by decide) (Nat.le_of_ble_eq_true rfl) rfl (fun mhM_1 hM_1 => ?_)
  subst hM_1
  refine w_if_eqB (n := 10) (tgt := 19) O dX6_drift_7 (by decide) rfl (fun c_2 => ?_) (fun c_2 => ?_)
  · skip
    refine w_iconst (n := 20) O dX6_drift_19 (v := (-1)) (by decide) rfl ?_
    refine w_iret O dX6_drift_20 ?_
    have e0 : a_drift T x n z = -1 := by unfold a_drift; rw [if_neg (by rw [show drOk n z = false from by simp [drOk, c_2]]; decide)]
    rw [e0] at hQ
    try dsimp only at hQ
    exact hQ _ ⟨hB, ⟨hT.1, hT.2.1, hT.2.2.1, hT.2.2.2⟩, hok, ⟨U, ⟨hU.1, hU.2.1, hU.2.2.1, hU.2.2.2⟩⟩, ⟨_, _, _, ⟨hM.1, hM.2.1, hM.2.2⟩, hp⟩, hP, hS, hG, hI, hK, hH⟩ sm.rf
  · skip
    have hr_q := c_2
    obtain ⟨q, qa, qb, rfl⟩ := wIn_t (by omega) c_2 (by omega)
    have cl_q : (nI q).toNatClampNeg = q := nI_clamp (by omega)
    refine w_iload_n (n := 11) O dX6_drift_10 rfl rfl rfl ?_
    refine w_iconst (n := 12) O dX6_drift_11 (v := (nI 0)) (by decide) rfl ?_
    refine w_iconst (n := 13) O dX6_drift_12 (v := (nI 1)) (by decide) rfl ?_
    refine w_cS (n := 16) (ro := some (.int (bI (wIn (z) (nI (0)) (nI (1)))))) (R := fun mM' => mM = mM') (st := []) (st1 := [.int (bI (wIn (z) (nI (0)) (nI (1))))]) (As := [.int (z), .int (nI 0), .int (nI 1)]) O dX6_drift_13 ul_X6_66 um_X6_within (f_X6_within hW ⟨rfl, rfl⟩) rfl rfl rfl (by decide) (Nat.le_of_ble_eq_true rfl) rfl (fun mhM_3 hM_3 => ?_)
    subst hM_3
    refine w_if_neB (n := 19) (tgt := 21) O dX6_drift_16 (by decide) rfl (fun c_4 => ?_) (fun c_4 => ?_)
    · skip
      have hr_t := c_4
      obtain ⟨t, ta, tb, rfl⟩ := wIn_t (by omega) c_4 (by omega)
      have cl_t : (nI t).toNatClampNeg = t := nI_clamp (by omega)
      refine w_aload_n (n := 22) O dX6_drift_21 rfl rfl rfl ?_
      refine w_getf (n := 25) O 0 dX6_drift_22 (by omega) hB rfl (by decide) uX6 uf_X6_10 rfl rfl ?_
      refine w_getf (n := 28) O 3 dX6_drift_25 (by omega) hT.1 rfl (by decide) uX5 uf_X6_94 rfl rfl ?_
      refine w_iconst (n := 29) O dX6_drift_28 (v := (nI 1)) (by decide) rfl ?_
      refine w_icmp_geN (n := 32) (tgt := 35) O dX6_drift_29 (by omega) (by omega) (by decide) rfl (fun c_5 => ?_) (fun c_5 => ?_)
      · skip
        have hn0 : 0 < T.2.2.2.1 := by omega
        refine w_aload_n (n := 36) O dX6_drift_35 rfl rfl rfl ?_
        refine w_getf (n := 39) O 1 dX6_drift_36 (by omega) hB rfl (by decide) uX6 uf_X6_16 rfl rfl ?_
        refine w_aload_n (n := 40) O dX6_drift_39 rfl rfl rfl ?_
        refine w_getf (n := 43) O 0 dX6_drift_40 (by omega) hB rfl (by decide) uX6 uf_X6_10 rfl rfl ?_
        refine w_cV (n := 46) (ro := none) (R := fun mM' => isT G mM' (5) T ∧ sm mM mM' (5) (5 + 3)) (st := []) (st1 := []) (As := [.ref (gb_ad G 1)]) (b := 5) O dX6_drift_43 ul_X6_87 um_X5_becomes (f_X5_becomes (T := U) (U := T) hW ⟨hU.1, hU.2.1, hU.2.2.1, hU.2.2.2⟩ (by omega) ⟨hT.1, hT.2.1, hT.2.2.1, hT.2.2.2⟩ (by omega) (by omega) (fun M' h1 h2 => ⟨rfl, h1, h2⟩)) rfl (by omega) hU.1 rfl rfl rfl rfl (by omega) (Nat.le_of_ble_eq_true rfl) rfl (fun mhM_6 hM_6 => ?_)
        obtain ⟨hThM_6, hshM_6⟩ := hM_6
        refine w_iload_n (n := 47) O dX6_drift_46 rfl rfl rfl ?_
        refine w_istore (n := 49) (lv' := [(4, .int (x)), (0, .ref (gb_ad G 0)), (1, .int (x)), (2, .int (nI (q))), (3, .int (nI (t)))]) O dX6_drift_47 (by decide) rfl rfl ?_
        refine w_iconst (n := 50) O dX6_drift_49 (v := (nI 0)) (by decide) rfl ?_
        refine w_istore (n := 52) (lv' := [(5, .int (nI 0)), (4, .int (x)), (0, .ref (gb_ad G 0)), (1, .int (x)), (2, .int (nI (q))), (3, .int (nI (t)))]) O dX6_drift_50 (by decide) rfl rfl ?_
        refine w_iconst (n := 53) O dX6_drift_52 (v := (nI 0)) (by decide) rfl ?_
        refine w_istore (n := 55) (lv' := [(6, .int (nI 0)), (5, .int (nI 0)), (4, .int (x)), (0, .ref (gb_ad G 0)), (1, .int (x)), (2, .int (nI (q))), (3, .int (nI (t)))]) O dX6_drift_53 (by decide) rfl rfl ?_
        have DR : ∀ (k : Nat) (k2 c : Nat) (m1 : gb_M) (pa1 am1 : Nat → Nat) (w1 : Nat), q - k2 = k → k2 ≤ q → c = sSum (fun k => dVal t (dRun T x (k + 1)).2) k2 → c ≤ k2 * 5000 → isT G m1 5 (dRun T x k2).2 → isM G m1 pa1 am1 w1 → okP pa1 → sm mM m1 5 11 → Wm G X 9 Q 55 [(0, .ref (gb_ad G 0)), (1, .int (x)), (2, .int (nI (q))), (3, .int (nI (t))), (4, .int ((dRun T x k2).1)), (5, .int (nI (c))), (6, .int (nI (k2)))] [] m1 := by
          intro k
          induction k using Nat.strongRecOn with
          | ind k ih_DR =>
            intro k2 c m1 pa1 am1 w1 hk hk2 hc hcl hV1 hM1 hp1 hs1
            obtain ⟨okd, hd2⟩ := dRun_ok ok hn0 x k2
            refine w_iload (n := 57) O dX6_drift_55 rfl rfl ?_
            refine w_iload_n (n := 58) O dX6_drift_57 rfl rfl rfl ?_
            refine w_icmp_geN (n := 61) (tgt := 162) O dX6_drift_58 (by omega) (by omega) (by decide) rfl (fun c_7 => ?_) (fun c_7 => ?_)
            · skip
              refine w_iload (n := 164) O dX6_drift_162 rfl rfl ?_
              refine w_iret O dX6_drift_164 ?_
              have e0 : a_drift T x (nI q) (nI t) = (nI (c)) := by unfold a_drift; rw [if_pos (by unfold drOk; rw [hr_q, hr_t]; rfl), if_neg (by omega), cl_q, cl_t, show q = k2 by omega, ← hc]
              rw [e0] at hQ
              try dsimp only at hQ
              exact hQ _ ⟨((hs1 (0) (by omega)).trans hB), ⟨((hs1 (1) (by omega)).trans hT.1), ((hs1 (2) (by omega)).trans hT.2.1), ((hs1 (3) (by omega)).trans hT.2.2.1), ((hs1 (4) (by omega)).trans hT.2.2.2)⟩, hok, ⟨(dRun T x k2).2, ⟨hV1.1, hV1.2.1, hV1.2.2.1, hV1.2.2.2⟩⟩, ⟨_, _, _, ⟨hM1.1, hM1.2.1, hM1.2.2⟩, hp1⟩, (hP.kp (kp_sm hs1 (by omega))), (hS.kp (kp_sm hs1 (by omega))), (hG.kp (kp_sm hs1 (by omega))), (hI.kp (kp_sm hs1 (by omega))), ((hs1 (39) (by omega)).trans hK), (hH.kp (kp_sm hs1 (by omega)))⟩ (sm.rf.tr (hs1.mono (by omega) (by omega)))
            · skip
              have hs1b := sbN_le (stepI (dRun T x k2).1)
              have hs2b := sbN_le (stepI (stepI (dRun T x k2).1))
              have hmg := Nat.mod_lt (sbN (stepI (dRun T x k2).1)) hn0
              have hmv := Nat.mod_lt (sbN (stepI (stepI (dRun T x k2).1))) (show 0 < 10 by decide)
              refine w_iload (n := 63) O dX6_drift_61 rfl rfl ?_
              refine w_cS (n := 66) (ro := some (.int (stepI ((dRun T x k2).1)))) (R := fun mM' => m1 = mM') (st := []) (st1 := [.int (stepI ((dRun T x k2).1))]) (As := [.int ((dRun T x k2).1)]) O dX6_drift_63 ul_X6_228 um_X6_stepSeed (f_X6_stepSeed hW ⟨rfl, rfl⟩) rfl rfl rfl (by decide) (Nat.le_of_ble_eq_true rfl) rfl (fun mhM_8 hM_8 => ?_)
              subst hM_8
              refine w_istore (n := 68) (lv' := [(4, .int (stepI ((dRun T x k2).1))), (0, .ref (gb_ad G 0)), (1, .int (x)), (2, .int (nI (q))), (3, .int (nI (t))), (5, .int (nI (c))), (6, .int (nI (k2)))]) O dX6_drift_66 (by decide) rfl rfl ?_
              refine w_iload (n := 70) O dX6_drift_68 rfl rfl ?_
              refine w_cS (n := 73) (ro := some (.int (nI (sbN (stepI ((dRun T x k2).1)))))) (R := fun mM' => m1 = mM') (st := []) (st1 := [.int (nI (sbN (stepI ((dRun T x k2).1))))]) (As := [.int (stepI ((dRun T x k2).1))]) O dX6_drift_70 ul_X6_231 um_X6_seedBits (f_X6_seedBits hW ⟨rfl, rfl⟩) rfl rfl rfl (by decide) (Nat.le_of_ble_eq_true rfl) rfl (fun mhM_9 hM_9 => ?_)
              subst hM_9
              refine w_aload_n (n := 74) O dX6_drift_73 rfl rfl rfl ?_
              refine w_getf (n := 77) O 0 dX6_drift_74 (by omega) ((hs1 (0) (by omega)).trans hB) rfl (by decide) uX6 uf_X6_10 rfl rfl ?_
              refine w_getf (n := 80) O 3 dX6_drift_77 (by omega) ((hs1 (1) (by omega)).trans hT.1) rfl (by decide) uX5 uf_X6_94 rfl rfl ?_
              refine w_iremN (n := 81) O dX6_drift_80 (by omega) (by omega) (by omega) rfl ?_
              refine w_istore (n := 83) (lv' := [(7, .int (nI (((sbN (stepI ((dRun T x k2).1))) % T.2.2.2.1)))), (4, .int (stepI ((dRun T x k2).1))), (0, .ref (gb_ad G 0)), (1, .int (x)), (2, .int (nI (q))), (3, .int (nI (t))), (5, .int (nI (c))), (6, .int (nI (k2)))]) O dX6_drift_81 (by decide) rfl rfl ?_
              refine w_iload (n := 85) O dX6_drift_83 rfl rfl ?_
              refine w_cS (n := 88) (ro := some (.int (stepI (stepI ((dRun T x k2).1))))) (R := fun mM' => m1 = mM') (st := []) (st1 := [.int (stepI (stepI ((dRun T x k2).1)))]) (As := [.int (stepI ((dRun T x k2).1))]) O dX6_drift_85 ul_X6_228 um_X6_stepSeed (f_X6_stepSeed hW ⟨rfl, rfl⟩) rfl rfl rfl (by decide) (Nat.le_of_ble_eq_true rfl) rfl (fun mhM_10 hM_10 => ?_)
              subst hM_10
              refine w_istore (n := 90) (lv' := [(4, .int (stepI (stepI ((dRun T x k2).1)))), (7, .int (nI (((sbN (stepI ((dRun T x k2).1))) % T.2.2.2.1)))), (0, .ref (gb_ad G 0)), (1, .int (x)), (2, .int (nI (q))), (3, .int (nI (t))), (5, .int (nI (c))), (6, .int (nI (k2)))]) O dX6_drift_88 (by decide) rfl rfl ?_
              refine w_aload_n (n := 91) O dX6_drift_90 rfl rfl rfl ?_
              refine w_getf (n := 94) O 1 dX6_drift_91 (by omega) ((hs1 (0) (by omega)).trans hB) rfl (by decide) uX6 uf_X6_16 rfl rfl ?_
              refine w_iload (n := 96) O dX6_drift_94 rfl rfl ?_
              refine w_iconst (n := 97) O dX6_drift_96 (v := (nI 1)) (by decide) rfl ?_
              refine w_iload (n := 99) O dX6_drift_97 rfl rfl ?_
              refine w_cS (n := 102) (ro := some (.int (nI (sbN (stepI (stepI ((dRun T x k2).1))))))) (R := fun mM' => m1 = mM') (st := [.int (nI 1), .int (nI (((sbN (stepI ((dRun T x k2).1))) % T.2.2.2.1))), .ref (gb_ad G 5)]) (st1 := [.int (nI (sbN (stepI (stepI ((dRun T x k2).1))))), .int (nI 1), .int (nI (((sbN (stepI ((dRun T x k2).1))) % T.2.2.2.1))), .ref (gb_ad G 5)]) (As := [.int (stepI (stepI ((dRun T x k2).1)))]) O dX6_drift_99 ul_X6_231 um_X6_seedBits (f_X6_seedBits hW ⟨rfl, rfl⟩) rfl rfl rfl (by decide) (Nat.le_of_ble_eq_true rfl) rfl (fun mhM_11 hM_11 => ?_)
              subst hM_11
              refine w_bipush (n := 104) O dX6_drift_102 (v := (nI 10)) (by decide) rfl ?_
              refine w_iremN (n := 105) O dX6_drift_104 (by omega) (by omega) (by omega) rfl ?_
              refine w_cV (n := 108) (ro := none) (R := fun mM' => isT G mM' (5) (upN ((dRun T x k2).2).1 (((sbN (stepI ((dRun T x k2).1))) % T.2.2.2.1) * 6 + 1) ((sbN (stepI (stepI ((dRun T x k2).1)))) % 10), ((dRun T x k2).2).2) ∧ sm m1 mM' (5) (5 + 3)) (st := []) (st1 := []) (As := [.int (nI (((sbN (stepI ((dRun T x k2).1))) % T.2.2.2.1))), .int (nI 1), .int (nI (((sbN (stepI (stepI ((dRun T x k2).1)))) % 10)))]) (b := 5) O dX6_drift_105 ul_X6_162 um_X5_setTrait (f_X5_setTrait (T := (dRun T x k2).2) hW ⟨hV1.1, hV1.2.1, hV1.2.2.1, hV1.2.2.2⟩ (by omega) (by omega) (fun M' h1 h2 => ⟨rfl, h1, h2⟩)) rfl (by omega) hV1.1 rfl rfl rfl rfl (by omega) (Nat.le_of_ble_eq_true rfl) rfl (fun mhM_12 hM_12 => ?_)
              obtain ⟨hThM_12, hshM_12⟩ := hM_12
              have edst : (dStep (dRun T x k2)).2 = (upN (dRun T x k2).2.1 (sbN (stepI (dRun T x k2).1) % T.2.2.2.1 * 6 + 1) (sbN (stepI (stepI (dRun T x k2).1)) % 10), (dRun T x k2).2.2) := by unfold dStep; rw [hd2]
              have okN : okT (upN (dRun T x k2).2.1 (sbN (stepI (dRun T x k2).1) % T.2.2.2.1 * 6 + 1) (sbN (stepI (stepI (dRun T x k2).1)) % 10), (dRun T x k2).2.2) := gft_ok okd (by omega) (by omega)
              refine w_aload_n (n := 109) O dX6_drift_108 rfl rfl rfl ?_
              refine w_aload_n (n := 110) O dX6_drift_109 rfl rfl rfl ?_
              refine w_getf (n := 113) O 1 dX6_drift_110 (by omega) ((hshM_12 (0) (by omega)).trans ((hs1 (0) (by omega)).trans hB)) rfl (by decide) uX6 uf_X6_16 rfl rfl ?_
              refine w_cV (n := 116) (ro := some (.int (bI (tTrue ((upN ((dRun T x k2).2).1 (((sbN (stepI ((dRun T x k2).1))) % T.2.2.2.1) * 6 + 1) ((sbN (stepI (stepI ((dRun T x k2).1)))) % 10), ((dRun T x k2).2).2)))))) (R := fun mM' => ∃ pa' : Nat → Nat, isM G mM' pa' (bAm ((upN ((dRun T x k2).2).1 (((sbN (stepI ((dRun T x k2).1))) % T.2.2.2.1) * 6 + 1) ((sbN (stepI (stepI ((dRun T x k2).1)))) % 10), ((dRun T x k2).2).2))) (bWt ((upN ((dRun T x k2).2).1 (((sbN (stepI ((dRun T x k2).1))) % T.2.2.2.1) * 6 + 1) ((sbN (stepI (stepI ((dRun T x k2).1)))) % 10), ((dRun T x k2).2).2))) ∧ (∀ g, g < ((upN ((dRun T x k2).2).1 (((sbN (stepI ((dRun T x k2).1))) % T.2.2.2.1) * 6 + 1) ((sbN (stepI (stepI ((dRun T x k2).1)))) % 10), ((dRun T x k2).2).2)).2.2.2.1 → pa' g = tGives ((upN ((dRun T x k2).2).1 (((sbN (stepI ((dRun T x k2).1))) % T.2.2.2.1) * 6 + 1) ((sbN (stepI (stepI ((dRun T x k2).1)))) % 10), ((dRun T x k2).2).2)) g) ∧ okP pa' ∧ sm mhM_12 mM' 9 11) (st := []) (st1 := [.int (bI (tTrue ((upN ((dRun T x k2).2).1 (((sbN (stepI ((dRun T x k2).1))) % T.2.2.2.1) * 6 + 1) ((sbN (stepI (stepI ((dRun T x k2).1)))) % 10), ((dRun T x k2).2).2))))]) (As := [.ref (gb_ad G 5)]) (b := 0) O dX6_drift_113 ul_X6_175 um_X6_castsTrue (f_X6_castsTrue (T := (upN ((dRun T x k2).2).1 (((sbN (stepI ((dRun T x k2).1))) % T.2.2.2.1) * 6 + 1) ((sbN (stepI (stepI ((dRun T x k2).1)))) % 10), ((dRun T x k2).2).2)) hW ((hshM_12 (0) (by omega)).trans ((hs1 (0) (by omega)).trans hB)) ⟨hThM_12.1, hThM_12.2.1, hThM_12.2.2.1, hThM_12.2.2.2⟩ (by omega) okN (by omega) ⟨((hshM_12 (9) (by omega)).trans hM1.1), ((hshM_12 (10) (by omega)).trans hM1.2.1), ((hshM_12 (11) (by omega)).trans hM1.2.2)⟩ hp1 (fun M' pa' h1 h2 h3 h4 => ⟨rfl, pa', h1, h2, h3, h4⟩)) rfl (by omega) ((hshM_12 (0) (by omega)).trans ((hs1 (0) (by omega)).trans hB)) rfl rfl rfl rfl (by decide) (Nat.le_of_ble_eq_true rfl) rfl (fun mhM_13 hM_13 => ?_)
              obtain ⟨pahM_13, hMhM_13, hghM_13, hphM_13, hshM_13⟩ := hM_13
              refine w_istore (n := 118) (lv' := [(8, .int (bI (tTrue ((upN ((dRun T x k2).2).1 (((sbN (stepI ((dRun T x k2).1))) % T.2.2.2.1) * 6 + 1) ((sbN (stepI (stepI ((dRun T x k2).1)))) % 10), ((dRun T x k2).2).2))))), (4, .int (stepI (stepI ((dRun T x k2).1)))), (7, .int (nI (((sbN (stepI ((dRun T x k2).1))) % T.2.2.2.1)))), (0, .ref (gb_ad G 0)), (1, .int (x)), (2, .int (nI (q))), (3, .int (nI (t))), (5, .int (nI (c))), (6, .int (nI (k2)))]) O dX6_drift_116 (by decide) rfl rfl ?_
              have hpb : (pNote (bAm (upN (dRun T x k2).2.1 (sbN (stepI (dRun T x k2).1) % T.2.2.2.1 * 6 + 1) (sbN (stepI (stepI (dRun T x k2).1)) % 10), (dRun T x k2).2.2)) (bWt (upN (dRun T x k2).2.1 (sbN (stepI (dRun T x k2).1) % T.2.2.2.1 * 6 + 1) (sbN (stepI (stepI (dRun T x k2).1)) % 10), (dRun T x k2).2.2))).getD 0 ≤ 5000 := by cases e : pNote (bAm (upN (dRun T x k2).2.1 (sbN (stepI (dRun T x k2).1) % T.2.2.2.1 * 6 + 1) (sbN (stepI (stepI (dRun T x k2).1)) % 10), (dRun T x k2).2.2)) (bWt (upN (dRun T x k2).2.1 (sbN (stepI (dRun T x k2).1) % T.2.2.2.1 * 6 + 1) (sbN (stepI (stepI (dRun T x k2).1)) % 10), (dRun T x k2).2.2)) with | none => exact Nat.zero_le _ | some k => exact pNote_le (fun m _ => bAm_le okN m) e
              refine w_iload_n (n := 119) O dX6_drift_118 rfl rfl rfl ?_
              refine w_if_neN (n := 122) (tgt := 140) O dX6_drift_119 (by omega) (by decide) rfl (fun c_14 => ?_) (fun c_14 => ?_)
              · skip
                refine w_iload (n := 142) O dX6_drift_140 rfl rfl ?_
                refine w_iconst (n := 143) O dX6_drift_142 (v := (nI 0)) (by decide) rfl ?_
                refine w_aload_n (n := 144) O dX6_drift_143 rfl rfl rfl ?_
                refine w_getf (n := 147) O 2 dX6_drift_144 (by omega) ((hshM_13 (0) (by omega)).trans ((hshM_12 (0) (by omega)).trans ((hs1 (0) (by omega)).trans hB))) rfl (by decide) uX6 uf_X6_22 rfl rfl ?_
                refine w_cV (n := 150) (ro := some (.int (oI (pNote (bAm ((upN ((dRun T x k2).2).1 (((sbN (stepI ((dRun T x k2).1))) % T.2.2.2.1) * 6 + 1) ((sbN (stepI (stepI ((dRun T x k2).1)))) % 10), ((dRun T x k2).2).2))) (bWt ((upN ((dRun T x k2).2).1 (((sbN (stepI ((dRun T x k2).1))) % T.2.2.2.1) * 6 + 1) ((sbN (stepI (stepI ((dRun T x k2).1)))) % 10), ((dRun T x k2).2).2))))))) (R := fun mM' => mhM_13 = mM') (st := [.int (nI 0), .int (nI (c))]) (st1 := [.int (oI (pNote (bAm ((upN ((dRun T x k2).2).1 (((sbN (stepI ((dRun T x k2).1))) % T.2.2.2.1) * 6 + 1) ((sbN (stepI (stepI ((dRun T x k2).1)))) % 10), ((dRun T x k2).2).2))) (bWt ((upN ((dRun T x k2).2).1 (((sbN (stepI ((dRun T x k2).1))) % T.2.2.2.1) * 6 + 1) ((sbN (stepI (stepI ((dRun T x k2).1)))) % 10), ((dRun T x k2).2).2))))), .int (nI 0), .int (nI (c))]) (As := []) (b := 9) O dX6_drift_147 ul_X6_139 um_X1_pitch (f_X1_pitch hW ⟨hMhM_13.1, hMhM_13.2.1, hMhM_13.2.2⟩ (fun m _ => bAm_le okN m) (bWt_le okN) ⟨rfl, rfl⟩) rfl (by omega) hMhM_13.1 rfl rfl rfl rfl (by decide) (Nat.le_of_ble_eq_true rfl) rfl (fun mhM_15 hM_15 => ?_)
                subst hM_15
                refine w_mmax (n := 153) O dX6_drift_150 ul_X6_234 ux_static_max ui_java_lang_Math ux_code_max (by omega) (Nat.le_of_ble_eq_true rfl) rfl ?_
                refine w_top (nI ((pNote (bAm (upN (dRun T x k2).2.1 (sbN (stepI (dRun T x k2).1) % T.2.2.2.1 * 6 + 1) (sbN (stepI (stepI (dRun T x k2).1)) % 10), (dRun T x k2).2.2)) (bWt (upN (dRun T x k2).2.1 (sbN (stepI (dRun T x k2).1) % T.2.2.2.1 * 6 + 1) (sbN (stepI (stepI (dRun T x k2).1)) % 10), (dRun T x k2).2.2))).getD 0)) (max0_oI (fun k hk => by have := pNote_le (fun m _ => bAm_le okN m) hk; omega)) ?_
                refine w_iaddN (n := 154) O dX6_drift_153 rfl ?_
                refine w_istore (n := 156) (lv' := [(5, .int (nI ((c + ((pNote (bAm (upN (dRun T x k2).2.1 (sbN (stepI (dRun T x k2).1) % T.2.2.2.1 * 6 + 1) (sbN (stepI (stepI (dRun T x k2).1)) % 10), (dRun T x k2).2.2)) (bWt (upN (dRun T x k2).2.1 (sbN (stepI (dRun T x k2).1) % T.2.2.2.1 * 6 + 1) (sbN (stepI (stepI (dRun T x k2).1)) % 10), (dRun T x k2).2.2))).getD 0))))), (8, .int (bI (tTrue ((upN ((dRun T x k2).2).1 (((sbN (stepI ((dRun T x k2).1))) % T.2.2.2.1) * 6 + 1) ((sbN (stepI (stepI ((dRun T x k2).1)))) % 10), ((dRun T x k2).2).2))))), (4, .int (stepI (stepI ((dRun T x k2).1)))), (7, .int (nI (((sbN (stepI ((dRun T x k2).1))) % T.2.2.2.1)))), (0, .ref (gb_ad G 0)), (1, .int (x)), (2, .int (nI (q))), (3, .int (nI (t))), (6, .int (nI (k2)))]) O dX6_drift_154 (by decide) rfl rfl ?_
                refine w_iincN (n := 159) (lv' := [(6, .int (nI (k2 + 1))), (5, .int (nI ((c + ((pNote (bAm (upN (dRun T x k2).2.1 (sbN (stepI (dRun T x k2).1) % T.2.2.2.1 * 6 + 1) (sbN (stepI (stepI (dRun T x k2).1)) % 10), (dRun T x k2).2.2)) (bWt (upN (dRun T x k2).2.1 (sbN (stepI (dRun T x k2).1) % T.2.2.2.1 * 6 + 1) (sbN (stepI (stepI (dRun T x k2).1)) % 10), (dRun T x k2).2.2))).getD 0))))), (8, .int (bI (tTrue ((upN ((dRun T x k2).2).1 (((sbN (stepI ((dRun T x k2).1))) % T.2.2.2.1) * 6 + 1) ((sbN (stepI (stepI ((dRun T x k2).1)))) % 10), ((dRun T x k2).2).2))))), (4, .int (stepI (stepI ((dRun T x k2).1)))), (7, .int (nI (((sbN (stepI ((dRun T x k2).1))) % T.2.2.2.1)))), (0, .ref (gb_ad G 0)), (1, .int (x)), (2, .int (nI (q))), (3, .int (nI (t)))]) O dX6_drift_156 rfl (by decide) rfl rfl ?_
                refine w_goto (tgt := 55) O dX6_drift_159 (by decide) ?_
                refine w_lv (lv2 := [(0, .ref (gb_ad G 0)), (1, .int (x)), (2, .int (nI (q))), (3, .int (nI (t))), (4, .int (stepI (stepI ((dRun T x k2).1)))), (5, .int (nI ((c + ((pNote (bAm (upN (dRun T x k2).2.1 (sbN (stepI (dRun T x k2).1) % T.2.2.2.1 * 6 + 1) (sbN (stepI (stepI (dRun T x k2).1)) % 10), (dRun T x k2).2.2)) (bWt (upN (dRun T x k2).2.1 (sbN (stepI (dRun T x k2).1) % T.2.2.2.1 * 6 + 1) (sbN (stepI (stepI (dRun T x k2).1)) % 10), (dRun T x k2).2.2))).getD 0))))), (6, .int (nI (k2 + 1)))]) [5, 6, 7, 8, 3, 1, 0] rfl ?_
                exact ih_DR _ (by omega) (k2 + 1) ((c + ((pNote (bAm (upN (dRun T x k2).2.1 (sbN (stepI (dRun T x k2).1) % T.2.2.2.1 * 6 + 1) (sbN (stepI (stepI (dRun T x k2).1)) % 10), (dRun T x k2).2.2)) (bWt (upN (dRun T x k2).2.1 (sbN (stepI (dRun T x k2).1) % T.2.2.2.1 * 6 + 1) (sbN (stepI (stepI (dRun T x k2).1)) % 10), (dRun T x k2).2.2))).getD 0))) _ _ _ _ rfl (by omega) (by simp only [sSum]; rw [← hc]; congr 1; show _ = dVal t (dStep (dRun T x k2)).2; rw [edst]; unfold dVal; rw [if_neg c_14]) (by rw [Nat.succ_mul]; omega) (by show isT G _ 5 (dStep (dRun T x k2)).2; rw [edst]; exact ⟨((hshM_13 (5) (by omega)).trans hThM_12.1), ((hshM_13 (6) (by omega)).trans hThM_12.2.1), ((hshM_13 (7) (by omega)).trans hThM_12.2.2.1), ((hshM_13 (8) (by omega)).trans hThM_12.2.2.2)⟩) ⟨hMhM_13.1, hMhM_13.2.1, hMhM_13.2.2⟩ hphM_13 (((sm.rf.tr (hs1.mono (by omega) (by omega))).tr (hshM_12.mono (by omega) (by omega))).tr (hshM_13.mono (by omega) (by omega)))
              · skip
                refine w_iload (n := 124) O dX6_drift_122 rfl rfl ?_
                refine w_iload (n := 126) O dX6_drift_124 rfl rfl ?_
                refine w_if_eqB (n := 129) (tgt := 133) O dX6_drift_126 (by decide) rfl (fun c_16 => ?_) (fun c_16 => ?_)
                · skip
                  refine w_iconst (n := 134) O dX6_drift_133 (v := (nI 0)) (by decide) rfl ?_
                  refine w_iaddN (n := 135) O dX6_drift_134 rfl ?_
                  refine w_istore (n := 137) (lv' := [(5, .int (nI ((c + 0)))), (8, .int (bI (tTrue ((upN ((dRun T x k2).2).1 (((sbN (stepI ((dRun T x k2).1))) % T.2.2.2.1) * 6 + 1) ((sbN (stepI (stepI ((dRun T x k2).1)))) % 10), ((dRun T x k2).2).2))))), (4, .int (stepI (stepI ((dRun T x k2).1)))), (7, .int (nI (((sbN (stepI ((dRun T x k2).1))) % T.2.2.2.1)))), (0, .ref (gb_ad G 0)), (1, .int (x)), (2, .int (nI (q))), (3, .int (nI (t))), (6, .int (nI (k2)))]) O dX6_drift_135 (by decide) rfl rfl ?_
                  refine w_goto (tgt := 156) O dX6_drift_137 (by decide) ?_
                  refine w_iincN (n := 159) (lv' := [(6, .int (nI (k2 + 1))), (5, .int (nI ((c + 0)))), (8, .int (bI (tTrue ((upN ((dRun T x k2).2).1 (((sbN (stepI ((dRun T x k2).1))) % T.2.2.2.1) * 6 + 1) ((sbN (stepI (stepI ((dRun T x k2).1)))) % 10), ((dRun T x k2).2).2))))), (4, .int (stepI (stepI ((dRun T x k2).1)))), (7, .int (nI (((sbN (stepI ((dRun T x k2).1))) % T.2.2.2.1)))), (0, .ref (gb_ad G 0)), (1, .int (x)), (2, .int (nI (q))), (3, .int (nI (t)))]) O dX6_drift_156 rfl (by decide) rfl rfl ?_
                  refine w_goto (tgt := 55) O dX6_drift_159 (by decide) ?_
                  refine w_lv (lv2 := [(0, .ref (gb_ad G 0)), (1, .int (x)), (2, .int (nI (q))), (3, .int (nI (t))), (4, .int (stepI (stepI ((dRun T x k2).1)))), (5, .int (nI ((c + 0)))), (6, .int (nI (k2 + 1)))]) [5, 6, 7, 8, 3, 1, 0] rfl ?_
                  exact ih_DR _ (by omega) (k2 + 1) ((c + 0)) _ _ _ _ rfl (by omega) (by simp only [sSum]; rw [← hc]; congr 1; show _ = dVal t (dStep (dRun T x k2)).2; rw [edst]; unfold dVal; rw [if_pos c_14, c_16]; rfl) (by rw [Nat.succ_mul]; omega) (by show isT G _ 5 (dStep (dRun T x k2)).2; rw [edst]; exact ⟨((hshM_13 (5) (by omega)).trans hThM_12.1), ((hshM_13 (6) (by omega)).trans hThM_12.2.1), ((hshM_13 (7) (by omega)).trans hThM_12.2.2.1), ((hshM_13 (8) (by omega)).trans hThM_12.2.2.2)⟩) ⟨hMhM_13.1, hMhM_13.2.1, hMhM_13.2.2⟩ hphM_13 (((sm.rf.tr (hs1.mono (by omega) (by omega))).tr (hshM_12.mono (by omega) (by omega))).tr (hshM_13.mono (by omega) (by omega)))
                · skip
                  refine w_iconst (n := 130) O dX6_drift_129 (v := (nI 1)) (by decide) rfl ?_
                  refine w_goto (tgt := 134) O dX6_drift_130 (by decide) ?_
                  refine w_iaddN (n := 135) O dX6_drift_134 rfl ?_
                  refine w_istore (n := 137) (lv' := [(5, .int (nI ((c + 1)))), (8, .int (bI (tTrue ((upN ((dRun T x k2).2).1 (((sbN (stepI ((dRun T x k2).1))) % T.2.2.2.1) * 6 + 1) ((sbN (stepI (stepI ((dRun T x k2).1)))) % 10), ((dRun T x k2).2).2))))), (4, .int (stepI (stepI ((dRun T x k2).1)))), (7, .int (nI (((sbN (stepI ((dRun T x k2).1))) % T.2.2.2.1)))), (0, .ref (gb_ad G 0)), (1, .int (x)), (2, .int (nI (q))), (3, .int (nI (t))), (6, .int (nI (k2)))]) O dX6_drift_135 (by decide) rfl rfl ?_
                  refine w_goto (tgt := 156) O dX6_drift_137 (by decide) ?_
                  refine w_iincN (n := 159) (lv' := [(6, .int (nI (k2 + 1))), (5, .int (nI ((c + 1)))), (8, .int (bI (tTrue ((upN ((dRun T x k2).2).1 (((sbN (stepI ((dRun T x k2).1))) % T.2.2.2.1) * 6 + 1) ((sbN (stepI (stepI ((dRun T x k2).1)))) % 10), ((dRun T x k2).2).2))))), (4, .int (stepI (stepI ((dRun T x k2).1)))), (7, .int (nI (((sbN (stepI ((dRun T x k2).1))) % T.2.2.2.1)))), (0, .ref (gb_ad G 0)), (1, .int (x)), (2, .int (nI (q))), (3, .int (nI (t)))]) O dX6_drift_156 rfl (by decide) rfl rfl ?_
                  refine w_goto (tgt := 55) O dX6_drift_159 (by decide) ?_
                  refine w_lv (lv2 := [(0, .ref (gb_ad G 0)), (1, .int (x)), (2, .int (nI (q))), (3, .int (nI (t))), (4, .int (stepI (stepI ((dRun T x k2).1)))), (5, .int (nI ((c + 1)))), (6, .int (nI (k2 + 1)))]) [5, 6, 7, 8, 3, 1, 0] rfl ?_
                  exact ih_DR _ (by omega) (k2 + 1) ((c + 1)) _ _ _ _ rfl (by omega) (by simp only [sSum]; rw [← hc]; congr 1; show _ = dVal t (dStep (dRun T x k2)).2; rw [edst]; unfold dVal; rw [if_pos c_14, c_16]; rfl) (by rw [Nat.succ_mul]; omega) (by show isT G _ 5 (dStep (dRun T x k2)).2; rw [edst]; exact ⟨((hshM_13 (5) (by omega)).trans hThM_12.1), ((hshM_13 (6) (by omega)).trans hThM_12.2.1), ((hshM_13 (7) (by omega)).trans hThM_12.2.2.1), ((hshM_13 (8) (by omega)).trans hThM_12.2.2.2)⟩) ⟨hMhM_13.1, hMhM_13.2.1, hMhM_13.2.2⟩ hphM_13 (((sm.rf.tr (hs1.mono (by omega) (by omega))).tr (hshM_12.mono (by omega) (by omega))).tr (hshM_13.mono (by omega) (by omega)))
        refine w_lv (lv2 := [(0, .ref (gb_ad G 0)), (1, .int (x)), (2, .int (nI (q))), (3, .int (nI (t))), (4, .int (x)), (5, .int (nI 0)), (6, .int (nI 0))]) [3, 4, 5, 6, 2, 1, 0] rfl ?_
        exact DR _ 0 0 _ pa am w rfl (Nat.zero_le _) rfl (by omega) ⟨hThM_6.1, hThM_6.2.1, hThM_6.2.2.1, hThM_6.2.2.2⟩ ⟨((hshM_6 (9) (by omega)).trans hM.1), ((hshM_6 (10) (by omega)).trans hM.2.1), ((hshM_6 (11) (by omega)).trans hM.2.2)⟩ hp (sm.rf.tr (hshM_6.mono (by omega) (by omega)))
      · skip
        refine w_bipush (n := 34) O dX6_drift_32 (v := (-2)) (by decide) rfl ?_
        refine w_iret O dX6_drift_34 ?_
        have e0 : a_drift T x (nI q) (nI t) = -2 := by unfold a_drift; rw [if_pos (by unfold drOk; rw [hr_q, hr_t]; rfl), if_pos (by omega)]
        rw [e0] at hQ
        try dsimp only at hQ
        exact hQ _ ⟨hB, ⟨hT.1, hT.2.1, hT.2.2.1, hT.2.2.2⟩, hok, ⟨U, ⟨hU.1, hU.2.1, hU.2.2.1, hU.2.2.2⟩⟩, ⟨_, _, _, ⟨hM.1, hM.2.1, hM.2.2⟩, hp⟩, hP, hS, hG, hI, hK, hH⟩ sm.rf
    · skip
      refine w_iconst (n := 20) O dX6_drift_19 (v := (-1)) (by decide) rfl ?_
      refine w_iret O dX6_drift_20 ?_
      have e0 : a_drift T x (nI q) z = -1 := by unfold a_drift; rw [if_neg (by rw [show drOk (nI q) z = false from by simp [drOk, c_4]]; decide)]
      rw [e0] at hQ
      try dsimp only at hQ
      exact hQ _ ⟨hB, ⟨hT.1, hT.2.1, hT.2.2.1, hT.2.2.2⟩, hok, ⟨U, ⟨hU.1, hU.2.1, hU.2.2.1, hU.2.2.2⟩⟩, ⟨_, _, _, ⟨hM.1, hM.2.1, hM.2.2⟩, hp⟩, hP, hS, hG, hI, hK, hH⟩ sm.rf
