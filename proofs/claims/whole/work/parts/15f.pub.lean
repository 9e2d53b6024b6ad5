set_option maxRecDepth 100000 in
set_option maxHeartbeats 4000000 in
theorem f_X6_casts {G : gb_G} (hW : gW G) {Q : Option Value → gb_M → Prop} {mM : gb_M} {T : Tw} {im : Nat → Tw} {kp : Nat → Bool} {bs : Nat → Nat} {ln fa : Nat} {st sf : Nat → Nat} {sn : Nat} {sh : Sh} {sc : Nat → Nat → Int32} {tn : Nat} (hC : isCW G mM T im kp bs ln fa st sf sn sh sc tn) {x : Int32}  (hQ : ∀ M', isCW G M' T im kp bs ln fa st sf sn sh sc tn → sm mM M' 0 48 → Q (some (.int (a_casts T x))) M') : Fn G 7 yX6_casts cX6_casts 5 (some .int) [.ref (gb_ad G 0), .int (x)] mM Q := by
  obtain ⟨hB, hT, hok, hU, hMx, hP, hS, hG, hI, hK, hH⟩ := hC
  have ok := hok.1
  have hn4 := ok.1
  have hst9 := hok.2.1
  have hln := hok.2.2.2.1
  have hsn6 := hok.2.2.2.2.2.2.1
  obtain ⟨U, hU⟩ := hU
  obtain ⟨pa, am, w, hM, hp⟩ := hMx
  have hN := hW.2.2.1
  refine Fn.of hW.1 [(0, .ref (gb_ad G 0)), (1, .int (x))] (by decide) (Nat.le_of_ble_eq_true rfl) rfl ?_
  intro X O
  refine w_iload_n (n := 1) O dX6_casts_0 rfl rfl rfl ?_
  refine w_iconst (n := 2) O dX6_casts_1 (v := (nI 0)) (by decide) rfl ?_
  refine w_iconst (n := 3) O dX6_casts_2 (v := (nI 1)) (by decide) rfl ?_
  refine w_cS (n := 6) (ro := some (.int (bI (wIn (x) (nI (0)) (nI (1)))))) (R := fun mM' => mM = mM') (st := []) (st1 := [.int (bI (wIn (x) (nI (0)) (nI (1))))]) (As := [.int (x), .int (nI 0), .int (nI 1)]) O dX6_casts_3 ul_X6_66 um_X6_within (f_X6_within hW ⟨rfl, rfl⟩) rfl rfl rfl (by decide) (Nat.le_of_ble_eq_true rfl) rfl (fun mhM_1 hM_1 => ?_)
  subst hM_1
  refine w_if_neB (n := 9) (tgt := 11) O dX6_casts_6 (by decide) rfl (fun c_2 => ?_) (fun c_2 => ?_)
  · skip
    have hr_j := c_2
    obtain ⟨j, ja, jb, rfl⟩ := wIn_t (by omega) c_2 (by omega)
    have cl_j : (nI j).toNatClampNeg = j := nI_clamp (by omega)
    have hhS : holdS T ≤ 36 := by have := sSum_le (f := fun g => T.1 (g * 6 + 5)) (c := 9) (n := T.2.2.2.1) (fun k hk => (ok.2.1 k (by omega)).2.2.2.2.2); unfold holdS; omega
    refine w_aload_n (n := 12) O dX6_casts_11 rfl rfl rfl ?_
    refine w_getf (n := 15) O 1 dX6_casts_12 (by omega) hB rfl (by decide) uX6 uf_X6_16 rfl rfl ?_
    refine w_aload_n (n := 16) O dX6_casts_15 rfl rfl rfl ?_
    refine w_getf (n := 19) O 0 dX6_casts_16 (by omega) hB rfl (by decide) uX6 uf_X6_10 rfl rfl ?_
    refine w_cV (n := 22) (ro := none) (R := fun mM' => isT G mM' (5) T ∧ sm mM mM' (5) (5 + 3)) (st := []) (st1 := []) (As := [.ref (gb_ad G 1)]) (b := 5) O dX6_casts_19 ul_X6_87 um_X5_becomes (f_X5_becomes (T := U) (U := T) hW ⟨hU.1, hU.2.1, hU.2.2.1, hU.2.2.2⟩ (by omega) ⟨hT.1, hT.2.1, hT.2.2.1, hT.2.2.2⟩ (by omega) (by omega) (fun M' h1 h2 => ⟨rfl, h1, h2⟩)) rfl (by omega) hU.1 rfl rfl rfl rfl (by omega) (Nat.le_of_ble_eq_true rfl) rfl (fun mhM_3 hM_3 => ?_)
    obtain ⟨hThM_3, hshM_3⟩ := hM_3
    refine w_aload_n (n := 23) O dX6_casts_22 rfl rfl rfl ?_
    refine w_getf (n := 26) O 1 dX6_casts_23 (by omega) ((hshM_3 (0) (by omega)).trans hB) rfl (by decide) uX6 uf_X6_16 rfl rfl ?_
    refine w_iconst (n := 27) O dX6_casts_26 (v := (nI 5)) (by decide) rfl ?_
    refine w_cV (n := 30) (ro := some (.int (nI (sSum (fun g => T.1 (g * 6 + 5)) T.2.2.2.1)))) (R := fun mM' => mhM_3 = mM') (st := []) (st1 := [.int (nI (sSum (fun g => T.1 (g * 6 + 5)) T.2.2.2.1))]) (As := [.int (nI 5)]) (b := 5) O dX6_casts_27 ul_X6_178 um_X5_sum (f_X5_sum (T := T) hW ⟨hThM_3.1, hThM_3.2.1, hThM_3.2.2.1, hThM_3.2.2.2⟩ (by omega) ok (by omega) ⟨rfl, rfl⟩) rfl (by omega) hThM_3.1 rfl rfl rfl rfl (by decide) (Nat.le_of_ble_eq_true rfl) rfl (fun mhM_4 hM_4 => ?_)
    subst hM_4
    refine w_top (nI (holdS T)) rfl ?_
    refine w_istore_n (n := 31) (lv' := [(2, .int (nI (holdS T))), (0, .ref (gb_ad G 0)), (1, .int (nI (j)))]) O dX6_casts_30 rfl (by decide) rfl rfl ?_
    refine w_bipush (n := 33) O dX6_casts_31 (v := (-4)) (by decide) rfl ?_
    refine w_istore_n (n := 34) (lv' := [(3, .int (-4)), (2, .int (nI (holdS T))), (0, .ref (gb_ad G 0)), (1, .int (nI (j)))]) O dX6_casts_33 rfl (by decide) rfl rfl ?_
    refine w_iconst (n := 35) O dX6_casts_34 (v := (nI 0)) (by decide) rfl ?_
    refine w_istore (n := 37) (lv' := [(4, .int (nI 0)), (3, .int (-4)), (2, .int (nI (holdS T))), (0, .ref (gb_ad G 0)), (1, .int (nI (j)))]) O dX6_casts_35 (by decide) rfl rfl ?_
    have LC : ∀ (k : Nat) (dn : Nat) (V : Tw) (l : Option Nat) (m1 : gb_M) (pa1 am1 : Nat → Nat) (w1 : Nat), holdS T + 1 - dn = k → dn ≤ holdS T + 1 → cRun (holdS T + 1) T 0 none = cRun (holdS T + 1 - dn) V dn l → okT V → isT G m1 5 V → isM G m1 pa1 am1 w1 → okP pa1 → sm mM m1 5 11 → Wm G X 5 Q 37 [(0, .ref (gb_ad G 0)), (1, .int (nI (j))), (2, .int (nI (holdS T))), (3, .int (oI l)), (4, .int (nI (dn)))] [] m1 := by
      intro k
      induction k using Nat.strongRecOn with
      | ind k ih_LC =>
        intro dn V l m1 pa1 am1 w1 hk hdn hrun okV hV1 hM1 hp1 hs1
        have hVn4 := okV.1
        refine w_iload (n := 39) O dX6_casts_37 rfl rfl ?_
        refine w_iload_n (n := 40) O dX6_casts_39 rfl rfl rfl ?_
        refine w_icmp_gtN (n := 43) (tgt := 108) O dX6_casts_40 (by omega) (by omega) (by decide) rfl (fun c_5 => ?_) (fun c_5 => ?_)
        · skip
          refine w_bipush (n := 110) O dX6_casts_108 (v := (-4)) (by decide) rfl ?_
          refine w_iret O dX6_casts_110 ?_
          have e0 : a_casts T (nI j) = -4 := by unfold a_casts; rw [if_pos hr_j, hrun]; rw [show holdS T + 1 - dn = 0 by omega]; rfl
          rw [e0] at hQ
          try dsimp only at hQ
          exact hQ _ ⟨((hs1 (0) (by omega)).trans hB), ⟨((hs1 (1) (by omega)).trans hT.1), ((hs1 (2) (by omega)).trans hT.2.1), ((hs1 (3) (by omega)).trans hT.2.2.1), ((hs1 (4) (by omega)).trans hT.2.2.2)⟩, hok, ⟨V, ⟨hV1.1, hV1.2.1, hV1.2.2.1, hV1.2.2.2⟩⟩, ⟨_, _, _, ⟨hM1.1, hM1.2.1, hM1.2.2⟩, hp1⟩, (hP.kp (kp_sm hs1 (by omega))), (hS.kp (kp_sm hs1 (by omega))), (hG.kp (kp_sm hs1 (by omega))), (hI.kp (kp_sm hs1 (by omega))), ((hs1 (39) (by omega)).trans hK), (hH.kp (kp_sm hs1 (by omega)))⟩ (sm.rf.tr (hs1.mono (by omega) (by omega)))
        · skip
          refine w_aload_n (n := 44) O dX6_casts_43 rfl rfl rfl ?_
          refine w_aload_n (n := 45) O dX6_casts_44 rfl rfl rfl ?_
          refine w_getf (n := 48) O 1 dX6_casts_45 (by omega) ((hs1 (0) (by omega)).trans hB) rfl (by decide) uX6 uf_X6_16 rfl rfl ?_
          refine w_cV (n := 51) (ro := some (.int (bI (tTrue V)))) (R := fun mM' => ∃ pa' : Nat → Nat, isM G mM' pa' (bAm V) (bWt V) ∧ (∀ g, g < V.2.2.2.1 → pa' g = tGives V g) ∧ okP pa' ∧ sm m1 mM' 9 11) (st := []) (st1 := [.int (bI (tTrue V))]) (As := [.ref (gb_ad G 5)]) (b := 0) O dX6_casts_48 ul_X6_175 um_X6_castsTrue (f_X6_castsTrue (T := V) hW ((hs1 (0) (by omega)).trans hB) ⟨hV1.1, hV1.2.1, hV1.2.2.1, hV1.2.2.2⟩ (by omega) okV (by omega) ⟨hM1.1, hM1.2.1, hM1.2.2⟩ hp1 (fun M' pa' h1 h2 h3 h4 => ⟨rfl, pa', h1, h2, h3, h4⟩)) rfl (by omega) ((hs1 (0) (by omega)).trans hB) rfl rfl rfl rfl (by decide) (Nat.le_of_ble_eq_true rfl) rfl (fun mhM_6 hM_6 => ?_)
          obtain ⟨pahM_6, hMhM_6, hghM_6, hphM_6, hshM_6⟩ := hM_6
          refine w_if_eqB (n := 54) (tgt := 65) O dX6_casts_51 (by decide) rfl (fun c_7 => ?_) (fun c_7 => ?_)
          · skip
            refine w_aload_n (n := 66) O dX6_casts_65 rfl rfl rfl ?_
            refine w_getf (n := 69) O 1 dX6_casts_66 (by omega) ((hshM_6 (0) (by omega)).trans ((hs1 (0) (by omega)).trans hB)) rfl (by decide) uX6 uf_X6_16 rfl rfl ?_
            refine w_cV (n := 72) (ro := some (.int (oI (hMost V)))) (R := fun mM' => mhM_6 = mM') (st := []) (st1 := [.int (oI (hMost V))]) (As := []) (b := 5) O dX6_casts_69 ul_X6_181 um_X5_holdsMost (f_X5_holdsMost (T := V) hW ⟨((hshM_6 (5) (by omega)).trans hV1.1), ((hshM_6 (6) (by omega)).trans hV1.2.1), ((hshM_6 (7) (by omega)).trans hV1.2.2.1), ((hshM_6 (8) (by omega)).trans hV1.2.2.2)⟩ (by omega) okV ⟨rfl, rfl⟩) rfl (by omega) ((hshM_6 (5) (by omega)).trans hV1.1) rfl rfl rfl rfl (by decide) (Nat.le_of_ble_eq_true rfl) rfl (fun mhM_8 hM_8 => ?_)
            subst hM_8
            refine w_istore_n (n := 73) (lv' := [(3, .int (oI (hMost V))), (0, .ref (gb_ad G 0)), (1, .int (nI (j))), (2, .int (nI (holdS T))), (4, .int (nI (dn)))]) O dX6_casts_72 rfl (by decide) rfl rfl ?_
            refine w_iload_n (n := 74) O dX6_casts_73 rfl rfl rfl ?_
            refine w_bipush (n := 76) O dX6_casts_74 (v := (-4)) (by decide) rfl ?_
            refine w_icmp_ne (n := 79) (tgt := 82) O dX6_casts_76 (by decide) rfl (fun c_9 => ?_) (fun c_9 => ?_)
            · skip
              obtain ⟨q, hq⟩ := oI_some c_9
              have hqi := sMost_in hq
              have hq9 := (okV.2.1 q (by omega)).2.2.2.2.2
              have hqp := hqi.2
              have hqp2 : 0 < V.1 (q * 6 + 5) := hqi.2
              rw [show oI (hMost V) = nI q by rw [hq]; rfl]
              refine w_aload_n (n := 83) O dX6_casts_82 rfl rfl rfl ?_
              refine w_getf (n := 86) O 1 dX6_casts_83 (by omega) ((hshM_6 (0) (by omega)).trans ((hs1 (0) (by omega)).trans hB)) rfl (by decide) uX6 uf_X6_16 rfl rfl ?_
              refine w_iload_n (n := 87) O dX6_casts_86 rfl rfl rfl ?_
              refine w_iconst (n := 88) O dX6_casts_87 (v := (nI 5)) (by decide) rfl ?_
              refine w_aload_n (n := 89) O dX6_casts_88 rfl rfl rfl ?_
              refine w_getf (n := 92) O 1 dX6_casts_89 (by omega) ((hshM_6 (0) (by omega)).trans ((hs1 (0) (by omega)).trans hB)) rfl (by decide) uX6 uf_X6_16 rfl rfl ?_
              refine w_iload_n (n := 93) O dX6_casts_92 rfl rfl rfl ?_
              refine w_iconst (n := 94) O dX6_casts_93 (v := (nI 5)) (by decide) rfl ?_
              refine w_cV (n := 97) (ro := some (.int (nI (V.1 (q * 6 + 5))))) (R := fun mM' => mhM_6 = mM') (st := [.int (nI 5), .int (nI (q)), .ref (gb_ad G 5)]) (st1 := [.int (nI (V.1 (q * 6 + 5))), .int (nI 5), .int (nI (q)), .ref (gb_ad G 5)]) (As := [.int (nI (q)), .int (nI 5)]) (b := 5) O dX6_casts_94 ul_X6_114 um_X5_trait (f_X5_trait (T := V) hW ⟨((hshM_6 (5) (by omega)).trans hV1.1), ((hshM_6 (6) (by omega)).trans hV1.2.1), ((hshM_6 (7) (by omega)).trans hV1.2.2.1), ((hshM_6 (8) (by omega)).trans hV1.2.2.2)⟩ (by omega) (by omega) ⟨rfl, rfl⟩) rfl (by omega) ((hshM_6 (5) (by omega)).trans hV1.1) rfl rfl rfl rfl (by decide) (Nat.le_of_ble_eq_true rfl) rfl (fun mhM_10 hM_10 => ?_)
              subst hM_10
              refine w_iconst (n := 98) O dX6_casts_97 (v := (nI 1)) (by decide) rfl ?_
              refine w_isubN (n := 99) O dX6_casts_98 (by omega) rfl ?_
              refine w_cV (n := 102) (ro := none) (R := fun mM' => isT G mM' (5) (upN V.1 (q * 6 + 5) ((V.1 (q * 6 + 5)) - 1), V.2) ∧ sm mhM_6 mM' (5) (5 + 3)) (st := []) (st1 := []) (As := [.int (nI (q)), .int (nI 5), .int (nI (((V.1 (q * 6 + 5)) - 1)))]) (b := 5) O dX6_casts_99 ul_X6_162 um_X5_setTrait (f_X5_setTrait (T := V) hW ⟨((hshM_6 (5) (by omega)).trans hV1.1), ((hshM_6 (6) (by omega)).trans hV1.2.1), ((hshM_6 (7) (by omega)).trans hV1.2.2.1), ((hshM_6 (8) (by omega)).trans hV1.2.2.2)⟩ (by omega) (by omega) (fun M' h1 h2 => ⟨rfl, h1, h2⟩)) rfl (by omega) ((hshM_6 (5) (by omega)).trans hV1.1) rfl rfl rfl rfl (by omega) (Nat.le_of_ble_eq_true rfl) rfl (fun mhM_11 hM_11 => ?_)
              obtain ⟨hThM_11, hshM_11⟩ := hM_11
              refine w_iincN (n := 105) (lv' := [(4, .int (nI (dn + 1))), (3, .int (nI (q))), (0, .ref (gb_ad G 0)), (1, .int (nI (j))), (2, .int (nI (holdS T)))]) O dX6_casts_102 rfl (by decide) rfl rfl ?_
              refine w_goto (tgt := 37) O dX6_casts_105 (by decide) ?_
              refine w_lv (lv2 := [(0, .ref (gb_ad G 0)), (1, .int (nI (j))), (2, .int (nI (holdS T))), (3, .int (nI (q))), (4, .int (nI (dn + 1)))]) [2, 3, 4, 1, 0] rfl ?_
              exact ih_LC _ (by omega) (dn + 1) (cStep V q) (some q) _ _ _ _ rfl (by omega) (by rw [hrun, show holdS T + 1 - dn = (holdS T + 1 - (dn + 1)) + 1 by omega]; simp only [cRun]; rw [if_neg (by rw [c_7]; decide), hq]) (okT_cStep okV (by omega)) ⟨hThM_11.1, hThM_11.2.1, hThM_11.2.2.1, hThM_11.2.2.2⟩ ⟨((hshM_11 (9) (by omega)).trans hMhM_6.1), ((hshM_11 (10) (by omega)).trans hMhM_6.2.1), ((hshM_11 (11) (by omega)).trans hMhM_6.2.2)⟩ hphM_6 (((sm.rf.tr (hs1.mono (by omega) (by omega))).tr (hshM_6.mono (by omega) (by omega))).tr (hshM_11.mono (by omega) (by omega)))
            · skip
              have hnn : hMost V = none := oI_none (fun k hk => by have := (sMost_in hk).1; omega) c_9
              refine w_bipush (n := 81) O dX6_casts_79 (v := (-4)) (by decide) rfl ?_
              refine w_iret O dX6_casts_81 ?_
              have e0 : a_casts T (nI j) = -4 := by unfold a_casts; rw [if_pos hr_j, hrun]; rw [show holdS T + 1 - dn = (holdS T - dn) + 1 by omega]; simp only [cRun]; rw [if_neg (by rw [c_7]; decide), hnn]; rfl
              rw [e0] at hQ
              try dsimp only at hQ
              exact hQ _ ⟨((hshM_6 (0) (by omega)).trans ((hs1 (0) (by omega)).trans hB)), ⟨((hshM_6 (1) (by omega)).trans ((hs1 (1) (by omega)).trans hT.1)), ((hshM_6 (2) (by omega)).trans ((hs1 (2) (by omega)).trans hT.2.1)), ((hshM_6 (3) (by omega)).trans ((hs1 (3) (by omega)).trans hT.2.2.1)), ((hshM_6 (4) (by omega)).trans ((hs1 (4) (by omega)).trans hT.2.2.2))⟩, hok, ⟨V, ⟨((hshM_6 (5) (by omega)).trans hV1.1), ((hshM_6 (6) (by omega)).trans hV1.2.1), ((hshM_6 (7) (by omega)).trans hV1.2.2.1), ((hshM_6 (8) (by omega)).trans hV1.2.2.2)⟩⟩, ⟨_, _, _, ⟨hMhM_6.1, hMhM_6.2.1, hMhM_6.2.2⟩, hphM_6⟩, ((hP.kp (kp_sm hs1 (by omega))).kp (kp_sm hshM_6 (by omega))), ((hS.kp (kp_sm hs1 (by omega))).kp (kp_sm hshM_6 (by omega))), ((hG.kp (kp_sm hs1 (by omega))).kp (kp_sm hshM_6 (by omega))), ((hI.kp (kp_sm hs1 (by omega))).kp (kp_sm hshM_6 (by omega))), ((hshM_6 (39) (by omega)).trans ((hs1 (39) (by omega)).trans hK)), ((hH.kp (kp_sm hs1 (by omega))).kp (kp_sm hshM_6 (by omega)))⟩ ((sm.rf.tr (hs1.mono (by omega) (by omega))).tr (hshM_6.mono (by omega) (by omega)))
          · skip
            refine w_iload_n (n := 55) O dX6_casts_54 rfl rfl rfl ?_
            refine w_if_neN (n := 58) (tgt := 63) O dX6_casts_55 (by omega) (by decide) rfl (fun c_12 => ?_) (fun c_12 => ?_)
            · skip
              refine w_iload_n (n := 64) O dX6_casts_63 rfl rfl rfl ?_
              refine w_iret O dX6_casts_64 ?_
              have e0 : a_casts T (nI j) = (oI l) := by unfold a_casts; rw [if_pos hr_j, hrun]; rw [show holdS T + 1 - dn = (holdS T - dn) + 1 by omega]; simp only [cRun]; rw [if_pos c_7]; exact if_neg (fun e => c_12 ((nI_eq (by omega) (by omega)).mp e))
              rw [e0] at hQ
              try dsimp only at hQ
              exact hQ _ ⟨((hshM_6 (0) (by omega)).trans ((hs1 (0) (by omega)).trans hB)), ⟨((hshM_6 (1) (by omega)).trans ((hs1 (1) (by omega)).trans hT.1)), ((hshM_6 (2) (by omega)).trans ((hs1 (2) (by omega)).trans hT.2.1)), ((hshM_6 (3) (by omega)).trans ((hs1 (3) (by omega)).trans hT.2.2.1)), ((hshM_6 (4) (by omega)).trans ((hs1 (4) (by omega)).trans hT.2.2.2))⟩, hok, ⟨V, ⟨((hshM_6 (5) (by omega)).trans hV1.1), ((hshM_6 (6) (by omega)).trans hV1.2.1), ((hshM_6 (7) (by omega)).trans hV1.2.2.1), ((hshM_6 (8) (by omega)).trans hV1.2.2.2)⟩⟩, ⟨_, _, _, ⟨hMhM_6.1, hMhM_6.2.1, hMhM_6.2.2⟩, hphM_6⟩, ((hP.kp (kp_sm hs1 (by omega))).kp (kp_sm hshM_6 (by omega))), ((hS.kp (kp_sm hs1 (by omega))).kp (kp_sm hshM_6 (by omega))), ((hG.kp (kp_sm hs1 (by omega))).kp (kp_sm hshM_6 (by omega))), ((hI.kp (kp_sm hs1 (by omega))).kp (kp_sm hshM_6 (by omega))), ((hshM_6 (39) (by omega)).trans ((hs1 (39) (by omega)).trans hK)), ((hH.kp (kp_sm hs1 (by omega))).kp (kp_sm hshM_6 (by omega)))⟩ ((sm.rf.tr (hs1.mono (by omega) (by omega))).tr (hshM_6.mono (by omega) (by omega)))
            · skip
              refine w_iload (n := 60) O dX6_casts_58 rfl rfl ?_
              refine w_goto (tgt := 64) O dX6_casts_60 (by decide) ?_
              refine w_iret O dX6_casts_64 ?_
              have e0 : a_casts T (nI j) = (nI (dn)) := by unfold a_casts; rw [if_pos hr_j, hrun]; rw [show holdS T + 1 - dn = (holdS T - dn) + 1 by omega]; simp only [cRun]; rw [if_pos c_7]; exact if_pos (by rw [c_12])
              rw [e0] at hQ
              try dsimp only at hQ
              exact hQ _ ⟨((hshM_6 (0) (by omega)).trans ((hs1 (0) (by omega)).trans hB)), ⟨((hshM_6 (1) (by omega)).trans ((hs1 (1) (by omega)).trans hT.1)), ((hshM_6 (2) (by omega)).trans ((hs1 (2) (by omega)).trans hT.2.1)), ((hshM_6 (3) (by omega)).trans ((hs1 (3) (by omega)).trans hT.2.2.1)), ((hshM_6 (4) (by omega)).trans ((hs1 (4) (by omega)).trans hT.2.2.2))⟩, hok, ⟨V, ⟨((hshM_6 (5) (by omega)).trans hV1.1), ((hshM_6 (6) (by omega)).trans hV1.2.1), ((hshM_6 (7) (by omega)).trans hV1.2.2.1), ((hshM_6 (8) (by omega)).trans hV1.2.2.2)⟩⟩, ⟨_, _, _, ⟨hMhM_6.1, hMhM_6.2.1, hMhM_6.2.2⟩, hphM_6⟩, ((hP.kp (kp_sm hs1 (by omega))).kp (kp_sm hshM_6 (by omega))), ((hS.kp (kp_sm hs1 (by omega))).kp (kp_sm hshM_6 (by omega))), ((hG.kp (kp_sm hs1 (by omega))).kp (kp_sm hshM_6 (by omega))), ((hI.kp (kp_sm hs1 (by omega))).kp (kp_sm hshM_6 (by omega))), ((hshM_6 (39) (by omega)).trans ((hs1 (39) (by omega)).trans hK)), ((hH.kp (kp_sm hs1 (by omega))).kp (kp_sm hshM_6 (by omega)))⟩ ((sm.rf.tr (hs1.mono (by omega) (by omega))).tr (hshM_6.mono (by omega) (by omega)))
    refine w_lv (lv2 := [(0, .ref (gb_ad G 0)), (1, .int (nI (j))), (2, .int (nI (holdS T))), (3, .int (-4)), (4, .int (nI 0))]) [3, 4, 2, 1, 0] rfl ?_
    exact LC _ 0 T none _ pa am w rfl (by omega) rfl ok ⟨hThM_3.1, hThM_3.2.1, hThM_3.2.2.1, hThM_3.2.2.2⟩ ⟨((hshM_3 (9) (by omega)).trans hM.1), ((hshM_3 (10) (by omega)).trans hM.2.1), ((hshM_3 (11) (by omega)).trans hM.2.2)⟩ hp (sm.rf.tr (hshM_3.mono (by omega) (by omega)))
  · skip
    refine w_iconst (n := 10) O dX6_casts_9 (v := (-1)) (by decide) rfl ?_
    refine w_iret O dX6_casts_10 ?_
    have e0 : a_casts T x = -1 := by unfold a_casts; rw [if_neg (by rw [c_2]; decide)]
    rw [e0] at hQ
    try dsimp only at hQ
    exact hQ _ ⟨hB, ⟨hT.1, hT.2.1, hT.2.2.1, hT.2.2.2⟩, hok, ⟨U, ⟨hU.1, hU.2.1, hU.2.2.1, hU.2.2.2⟩⟩, ⟨_, _, _, ⟨hM.1, hM.2.1, hM.2.2⟩, hp⟩, hP, hS, hG, hI, hK, hH⟩ sm.rf
set_option maxRecDepth 100000 in
set_option maxHeartbeats 4000000 in
theorem f_X6_swap {G : gb_G} (hW : gW G) {Q : Option Value → gb_M → Prop} {mM : gb_M} {T : Tw} {im : Nat → Tw} {kp : Nat → Bool} {bs : Nat → Nat} {ln fa : Nat} {st sf : Nat → Nat} {sn : Nat} {sh : Sh} {sc : Nat → Nat → Int32} {tn : Nat} (hC : isCW G mM T im kp bs ln fa st sf sn sh sc tn)  (hQ : ∀ M', isCW G M' T im kp bs ln fa st sf sn sh sc tn → sm mM M' 0 48 → Q (some (.int (a_swap T))) M') : Fn G 7 yX6_swap cX6_swap 3 (some .int) [.ref (gb_ad G 0)] mM Q := by
  obtain ⟨hB, hT, hok, hU, hMx, hP, hS, hG, hI, hK, hH⟩ := hC
  have ok := hok.1
  have hn4 := ok.1
  have hst9 := hok.2.1
  have hln := hok.2.2.2.1
  have hsn6 := hok.2.2.2.2.2.2.1
  obtain ⟨U, hU⟩ := hU
  obtain ⟨pa, am, w, hM, hp⟩ := hMx
  have hN := hW.2.2.1
  refine Fn.of hW.1 [(0, .ref (gb_ad G 0))] (by decide) (Nat.le_of_ble_eq_true rfl) rfl ?_
  intro X O
  refine w_aload_n (n := 1) O dX6_swap_0 rfl rfl rfl ?_
  refine w_aload_n (n := 2) O dX6_swap_1 rfl rfl rfl ?_
  refine w_getf (n := 5) O 0 dX6_swap_2 (by omega) hB rfl (by decide) uX6 uf_X6_10 rfl rfl ?_
  refine w_cV (n := 8) (ro := some (.int (bI (tTrue T)))) (R := fun mM' => ∃ pa' : Nat → Nat, isM G mM' pa' (bAm T) (bWt T) ∧ (∀ g, g < T.2.2.2.1 → pa' g = tGives T g) ∧ okP pa' ∧ sm mM mM' 9 11) (st := []) (st1 := [.int (bI (tTrue T))]) (As := [.ref (gb_ad G 1)]) (b := 0) O dX6_swap_5 ul_X6_175 um_X6_castsTrue (f_X6_castsTrue (T := T) hW hB ⟨hT.1, hT.2.1, hT.2.2.1, hT.2.2.2⟩ (by omega) ok (by omega) ⟨hM.1, hM.2.1, hM.2.2⟩ hp (fun M' pa' h1 h2 h3 h4 => ⟨rfl, pa', h1, h2, h3, h4⟩)) rfl (by omega) hB rfl rfl rfl rfl (by decide) (Nat.le_of_ble_eq_true rfl) rfl (fun mhM_1 hM_1 => ?_)
  obtain ⟨pahM_1, hMhM_1, hghM_1, hphM_1, hshM_1⟩ := hM_1
  refine w_if_eqB (n := 11) (tgt := 14) O dX6_swap_8 (by decide) rfl (fun c_2 => ?_) (fun c_2 => ?_)
  · skip
    refine w_iconst (n := 15) O dX6_swap_14 (v := (nI 0)) (by decide) rfl ?_
    refine w_istore_n (n := 16) (lv' := [(1, .int (nI 0)), (0, .ref (gb_ad G 0))]) O dX6_swap_15 rfl (by decide) rfl rfl ?_
    have SO : ∀ (k : Nat) (l : Nat) (V : Tw) (m1 : gb_M) (pa1 am1 : Nat → Nat) (w1 : Nat), T.2.2.2.1 - l = k → l ≤ T.2.2.2.1 → (∀ c, c < 10 * l → swB T c = false) → isT G m1 5 V → isM G m1 pa1 am1 w1 → okP pa1 → sm mM m1 5 11 → Wm G X 3 Q 16 [(0, .ref (gb_ad G 0)), (1, .int (nI (l)))] [] m1 := by
      intro k
      induction k using Nat.strongRecOn with
      | ind k ih_SO =>
        intro l V m1 pa1 am1 w1 hk hl hno hV1 hM1 hp1 hs1
        refine w_iload_n (n := 17) O dX6_swap_16 rfl rfl rfl ?_
        refine w_aload_n (n := 18) O dX6_swap_17 rfl rfl rfl ?_
        refine w_getf (n := 21) O 0 dX6_swap_18 (by omega) ((hs1 (0) (by omega)).trans hB) rfl (by decide) uX6 uf_X6_10 rfl rfl ?_
        refine w_getf (n := 24) O 3 dX6_swap_21 (by omega) ((hs1 (1) (by omega)).trans hT.1) rfl (by decide) uX5 uf_X6_94 rfl rfl ?_
        refine w_icmp_geN (n := 27) (tgt := 119) O dX6_swap_24 (by omega) (by omega) (by decide) rfl (fun c_3 => ?_) (fun c_3 => ?_)
        · skip
          refine w_bipush (n := 121) O dX6_swap_119 (v := (-4)) (by decide) rfl ?_
          refine w_iret O dX6_swap_121 ?_
          have e0 : a_swap T = -4 := by unfold a_swap; rw [if_neg (by rw [c_2]; decide), sF_none (fun c hc => by rcases Nat.lt_or_ge c (10 * l) with q | q; exact hno c q; exact swB_off (by omega))]; rfl
          rw [e0] at hQ
          try dsimp only at hQ
          exact hQ _ ⟨((hs1 (0) (by omega)).trans hB), ⟨((hs1 (1) (by omega)).trans hT.1), ((hs1 (2) (by omega)).trans hT.2.1), ((hs1 (3) (by omega)).trans hT.2.2.1), ((hs1 (4) (by omega)).trans hT.2.2.2)⟩, hok, ⟨V, ⟨hV1.1, hV1.2.1, hV1.2.2.1, hV1.2.2.2⟩⟩, ⟨_, _, _, ⟨hM1.1, hM1.2.1, hM1.2.2⟩, hp1⟩, (hP.kp (kp_sm hs1 (by omega))), (hS.kp (kp_sm hs1 (by omega))), (hG.kp (kp_sm hs1 (by omega))), (hI.kp (kp_sm hs1 (by omega))), ((hs1 (39) (by omega)).trans hK), (hH.kp (kp_sm hs1 (by omega)))⟩ (sm.rf.tr (hs1.mono (by omega) (by omega)))
        · skip
          refine w_iload_n (n := 28) O dX6_swap_27 rfl rfl rfl ?_
          refine w_iconst (n := 29) O dX6_swap_28 (v := (nI 1)) (by decide) rfl ?_
          refine w_iaddN (n := 30) O dX6_swap_29 rfl ?_
          refine w_istore_n (n := 31) (lv' := [(2, .int (nI ((l + 1)))), (0, .ref (gb_ad G 0)), (1, .int (nI (l)))]) O dX6_swap_30 rfl (by decide) rfl rfl ?_
          have SI : ∀ (k : Nat) (h : Nat) (V2 : Tw) (m2 : gb_M) (pa2 am2 : Nat → Nat) (w2 : Nat), T.2.2.2.1 - h = k → l < h → h ≤ T.2.2.2.1 → (∀ c, c < 10 * l + h → swB T c = false) → isT G m2 5 V2 → isM G m2 pa2 am2 w2 → okP pa2 → sm mM m2 5 11 → Wm G X 3 Q 31 [(0, .ref (gb_ad G 0)), (1, .int (nI (l))), (2, .int (nI (h)))] [] m2 := by
            intro k
            induction k using Nat.strongRecOn with
            | ind k ih_SI =>
              intro h V2 m2 pa2 am2 w2 hk hlh hh hno2 hV2 hM2 hp2 hs2
              refine w_iload_n (n := 32) O dX6_swap_31 rfl rfl rfl ?_
              refine w_aload_n (n := 33) O dX6_swap_32 rfl rfl rfl ?_
              refine w_getf (n := 36) O 0 dX6_swap_33 (by omega) ((hs2 (0) (by omega)).trans hB) rfl (by decide) uX6 uf_X6_10 rfl rfl ?_
              refine w_getf (n := 39) O 3 dX6_swap_36 (by omega) ((hs2 (1) (by omega)).trans hT.1) rfl (by decide) uX5 uf_X6_94 rfl rfl ?_
              refine w_icmp_geN (n := 42) (tgt := 113) O dX6_swap_39 (by omega) (by omega) (by decide) rfl (fun c_4 => ?_) (fun c_4 => ?_)
              · skip
                refine w_iincN (n := 116) (lv' := [(1, .int (nI (l + 1))), (0, .ref (gb_ad G 0)), (2, .int (nI (h)))]) O dX6_swap_113 rfl (by decide) rfl rfl ?_
                refine w_goto (tgt := 16) O dX6_swap_116 (by decide) ?_
                refine w_lv (lv2 := [(0, .ref (gb_ad G 0)), (1, .int (nI (l + 1)))]) [1, 0] rfl ?_
                exact ih_SO _ (by omega) (l + 1) V2 _ _ _ _ rfl (by omega) (fun c hc => by rcases Nat.lt_or_ge c (10 * l + h) with q | q; exact hno2 c q; exact swB_off (by omega)) hV2 hM2 hp2 hs2
              · skip
                refine w_aload_n (n := 43) O dX6_swap_42 rfl rfl rfl ?_
                refine w_getf (n := 46) O 1 dX6_swap_43 (by omega) ((hs2 (0) (by omega)).trans hB) rfl (by decide) uX6 uf_X6_16 rfl rfl ?_
                refine w_aload_n (n := 47) O dX6_swap_46 rfl rfl rfl ?_
                refine w_getf (n := 50) O 0 dX6_swap_47 (by omega) ((hs2 (0) (by omega)).trans hB) rfl (by decide) uX6 uf_X6_10 rfl rfl ?_
                refine w_cV (n := 53) (ro := none) (R := fun mM' => isT G mM' (5) T ∧ sm m2 mM' (5) (5 + 3)) (st := []) (st1 := []) (As := [.ref (gb_ad G 1)]) (b := 5) O dX6_swap_50 ul_X6_87 um_X5_becomes (f_X5_becomes (T := V2) (U := T) hW ⟨hV2.1, hV2.2.1, hV2.2.2.1, hV2.2.2.2⟩ (by omega) ⟨((hs2 (1) (by omega)).trans hT.1), ((hs2 (2) (by omega)).trans hT.2.1), ((hs2 (3) (by omega)).trans hT.2.2.1), ((hs2 (4) (by omega)).trans hT.2.2.2)⟩ (by omega) (by omega) (fun M' h1 h2 => ⟨rfl, h1, h2⟩)) rfl (by omega) hV2.1 rfl rfl rfl rfl (by omega) (Nat.le_of_ble_eq_true rfl) rfl (fun mhM_5 hM_5 => ?_)
                obtain ⟨hThM_5, hshM_5⟩ := hM_5
                refine w_aload_n (n := 54) O dX6_swap_53 rfl rfl rfl ?_
                refine w_getf (n := 57) O 1 dX6_swap_54 (by omega) ((hshM_5 (0) (by omega)).trans ((hs2 (0) (by omega)).trans hB)) rfl (by decide) uX6 uf_X6_16 rfl rfl ?_
                refine w_iload_n (n := 58) O dX6_swap_57 rfl rfl rfl ?_
                refine w_iconst (n := 59) O dX6_swap_58 (v := (nI 2)) (by decide) rfl ?_
                refine w_aload_n (n := 60) O dX6_swap_59 rfl rfl rfl ?_
                refine w_getf (n := 63) O 0 dX6_swap_60 (by omega) ((hshM_5 (0) (by omega)).trans ((hs2 (0) (by omega)).trans hB)) rfl (by decide) uX6 uf_X6_10 rfl rfl ?_
                refine w_iload_n (n := 64) O dX6_swap_63 rfl rfl rfl ?_
                refine w_iconst (n := 65) O dX6_swap_64 (v := (nI 2)) (by decide) rfl ?_
                refine w_cV (n := 68) (ro := some (.int (nI (T.1 (h * 6 + 2))))) (R := fun mM' => mhM_5 = mM') (st := [.int (nI 2), .int (nI (l)), .ref (gb_ad G 5)]) (st1 := [.int (nI (T.1 (h * 6 + 2))), .int (nI 2), .int (nI (l)), .ref (gb_ad G 5)]) (As := [.int (nI (h)), .int (nI 2)]) (b := 1) O dX6_swap_65 ul_X6_114 um_X5_trait (f_X5_trait (T := T) hW ⟨((hshM_5 (1) (by omega)).trans ((hs2 (1) (by omega)).trans hT.1)), ((hshM_5 (2) (by omega)).trans ((hs2 (2) (by omega)).trans hT.2.1)), ((hshM_5 (3) (by omega)).trans ((hs2 (3) (by omega)).trans hT.2.2.1)), ((hshM_5 (4) (by omega)).trans ((hs2 (4) (by omega)).trans hT.2.2.2))⟩ (by omega) (by omega) ⟨rfl, rfl⟩) rfl (by omega) ((hshM_5 (1) (by omega)).trans ((hs2 (1) (by omega)).trans hT.1)) rfl rfl rfl rfl (by decide) (Nat.le_of_ble_eq_true rfl) rfl (fun mhM_6 hM_6 => ?_)
                subst hM_6
                refine w_cV (n := 71) (ro := none) (R := fun mM' => isT G mM' (5) (upN T.1 (l * 6 + 2) (T.1 (h * 6 + 2)), T.2) ∧ sm mhM_5 mM' (5) (5 + 3)) (st := []) (st1 := []) (As := [.int (nI (l)), .int (nI 2), .int (nI (T.1 (h * 6 + 2)))]) (b := 5) O dX6_swap_68 ul_X6_162 um_X5_setTrait (f_X5_setTrait (T := T) hW ⟨hThM_5.1, hThM_5.2.1, hThM_5.2.2.1, hThM_5.2.2.2⟩ (by omega) (by omega) (fun M' h1 h2 => ⟨rfl, h1, h2⟩)) rfl (by omega) hThM_5.1 rfl rfl rfl rfl (by omega) (Nat.le_of_ble_eq_true rfl) rfl (fun mhM_7 hM_7 => ?_)
                obtain ⟨hThM_7, hshM_7⟩ := hM_7
                refine w_aload_n (n := 72) O dX6_swap_71 rfl rfl rfl ?_
                refine w_getf (n := 75) O 1 dX6_swap_72 (by omega) ((hshM_7 (0) (by omega)).trans ((hshM_5 (0) (by omega)).trans ((hs2 (0) (by omega)).trans hB))) rfl (by decide) uX6 uf_X6_16 rfl rfl ?_
                refine w_iload_n (n := 76) O dX6_swap_75 rfl rfl rfl ?_
                refine w_iconst (n := 77) O dX6_swap_76 (v := (nI 2)) (by decide) rfl ?_
                refine w_aload_n (n := 78) O dX6_swap_77 rfl rfl rfl ?_
                refine w_getf (n := 81) O 0 dX6_swap_78 (by omega) ((hshM_7 (0) (by omega)).trans ((hshM_5 (0) (by omega)).trans ((hs2 (0) (by omega)).trans hB))) rfl (by decide) uX6 uf_X6_10 rfl rfl ?_
                refine w_iload_n (n := 82) O dX6_swap_81 rfl rfl rfl ?_
                refine w_iconst (n := 83) O dX6_swap_82 (v := (nI 2)) (by decide) rfl ?_
                refine w_cV (n := 86) (ro := some (.int (nI (T.1 (l * 6 + 2))))) (R := fun mM' => mhM_7 = mM') (st := [.int (nI 2), .int (nI (h)), .ref (gb_ad G 5)]) (st1 := [.int (nI (T.1 (l * 6 + 2))), .int (nI 2), .int (nI (h)), .ref (gb_ad G 5)]) (As := [.int (nI (l)), .int (nI 2)]) (b := 1) O dX6_swap_83 ul_X6_114 um_X5_trait (f_X5_trait (T := T) hW ⟨((hshM_7 (1) (by omega)).trans ((hshM_5 (1) (by omega)).trans ((hs2 (1) (by omega)).trans hT.1))), ((hshM_7 (2) (by omega)).trans ((hshM_5 (2) (by omega)).trans ((hs2 (2) (by omega)).trans hT.2.1))), ((hshM_7 (3) (by omega)).trans ((hshM_5 (3) (by omega)).trans ((hs2 (3) (by omega)).trans hT.2.2.1))), ((hshM_7 (4) (by omega)).trans ((hshM_5 (4) (by omega)).trans ((hs2 (4) (by omega)).trans hT.2.2.2)))⟩ (by omega) (by omega) ⟨rfl, rfl⟩) rfl (by omega) ((hshM_7 (1) (by omega)).trans ((hshM_5 (1) (by omega)).trans ((hs2 (1) (by omega)).trans hT.1))) rfl rfl rfl rfl (by decide) (Nat.le_of_ble_eq_true rfl) rfl (fun mhM_8 hM_8 => ?_)
                subst hM_8
                refine w_cV (n := 89) (ro := none) (R := fun mM' => isT G mM' (5) (upN (upN T.1 (l * 6 + 2) (T.1 (h * 6 + 2)), T.2).1 (h * 6 + 2) (T.1 (l * 6 + 2)), (upN T.1 (l * 6 + 2) (T.1 (h * 6 + 2)), T.2).2) ∧ sm mhM_7 mM' (5) (5 + 3)) (st := []) (st1 := []) (As := [.int (nI (h)), .int (nI 2), .int (nI (T.1 (l * 6 + 2)))]) (b := 5) O dX6_swap_86 ul_X6_162 um_X5_setTrait (f_X5_setTrait (T := (upN T.1 (l * 6 + 2) (T.1 (h * 6 + 2)), T.2)) hW ⟨hThM_7.1, hThM_7.2.1, hThM_7.2.2.1, hThM_7.2.2.2⟩ (by omega) (by omega) (fun M' h1 h2 => ⟨rfl, h1, h2⟩)) rfl (by omega) hThM_7.1 rfl rfl rfl rfl (by omega) (Nat.le_of_ble_eq_true rfl) rfl (fun mhM_9 hM_9 => ?_)
                obtain ⟨hThM_9, hshM_9⟩ := hM_9
                have okw : okT (swapT T l h) := okT_tr (okT_tr ok (by omega) (by omega) (ok.2.1 h (by omega)).2.2.1) (by omega) (by omega) (ok.2.1 l (by omega)).2.2.1
                refine w_aload_n (n := 90) O dX6_swap_89 rfl rfl rfl ?_
                refine w_aload_n (n := 91) O dX6_swap_90 rfl rfl rfl ?_
                refine w_getf (n := 94) O 1 dX6_swap_91 (by omega) ((hshM_9 (0) (by omega)).trans ((hshM_7 (0) (by omega)).trans ((hshM_5 (0) (by omega)).trans ((hs2 (0) (by omega)).trans hB)))) rfl (by decide) uX6 uf_X6_16 rfl rfl ?_
                refine w_cV (n := 97) (ro := some (.int (bI (tTrue ((upN (upN T.1 (l * 6 + 2) (T.1 (h * 6 + 2)), T.2).1 (h * 6 + 2) (T.1 (l * 6 + 2)), (upN T.1 (l * 6 + 2) (T.1 (h * 6 + 2)), T.2).2)))))) (R := fun mM' => ∃ pa' : Nat → Nat, isM G mM' pa' (bAm ((upN (upN T.1 (l * 6 + 2) (T.1 (h * 6 + 2)), T.2).1 (h * 6 + 2) (T.1 (l * 6 + 2)), (upN T.1 (l * 6 + 2) (T.1 (h * 6 + 2)), T.2).2))) (bWt ((upN (upN T.1 (l * 6 + 2) (T.1 (h * 6 + 2)), T.2).1 (h * 6 + 2) (T.1 (l * 6 + 2)), (upN T.1 (l * 6 + 2) (T.1 (h * 6 + 2)), T.2).2))) ∧ (∀ g, g < ((upN (upN T.1 (l * 6 + 2) (T.1 (h * 6 + 2)), T.2).1 (h * 6 + 2) (T.1 (l * 6 + 2)), (upN T.1 (l * 6 + 2) (T.1 (h * 6 + 2)), T.2).2)).2.2.2.1 → pa' g = tGives ((upN (upN T.1 (l * 6 + 2) (T.1 (h * 6 + 2)), T.2).1 (h * 6 + 2) (T.1 (l * 6 + 2)), (upN T.1 (l * 6 + 2) (T.1 (h * 6 + 2)), T.2).2)) g) ∧ okP pa' ∧ sm mhM_9 mM' 9 11) (st := []) (st1 := [.int (bI (tTrue ((upN (upN T.1 (l * 6 + 2) (T.1 (h * 6 + 2)), T.2).1 (h * 6 + 2) (T.1 (l * 6 + 2)), (upN T.1 (l * 6 + 2) (T.1 (h * 6 + 2)), T.2).2))))]) (As := [.ref (gb_ad G 5)]) (b := 0) O dX6_swap_94 ul_X6_175 um_X6_castsTrue (f_X6_castsTrue (T := (upN (upN T.1 (l * 6 + 2) (T.1 (h * 6 + 2)), T.2).1 (h * 6 + 2) (T.1 (l * 6 + 2)), (upN T.1 (l * 6 + 2) (T.1 (h * 6 + 2)), T.2).2)) hW ((hshM_9 (0) (by omega)).trans ((hshM_7 (0) (by omega)).trans ((hshM_5 (0) (by omega)).trans ((hs2 (0) (by omega)).trans hB)))) ⟨hThM_9.1, hThM_9.2.1, hThM_9.2.2.1, hThM_9.2.2.2⟩ (by omega) okw (by omega) ⟨((hshM_9 (9) (by omega)).trans ((hshM_7 (9) (by omega)).trans ((hshM_5 (9) (by omega)).trans hM2.1))), ((hshM_9 (10) (by omega)).trans ((hshM_7 (10) (by omega)).trans ((hshM_5 (10) (by omega)).trans hM2.2.1))), ((hshM_9 (11) (by omega)).trans ((hshM_7 (11) (by omega)).trans ((hshM_5 (11) (by omega)).trans hM2.2.2)))⟩ hp2 (fun M' pa' h1 h2 h3 h4 => ⟨rfl, pa', h1, h2, h3, h4⟩)) rfl (by omega) ((hshM_9 (0) (by omega)).trans ((hshM_7 (0) (by omega)).trans ((hshM_5 (0) (by omega)).trans ((hs2 (0) (by omega)).trans hB)))) rfl rfl rfl rfl (by decide) (Nat.le_of_ble_eq_true rfl) rfl (fun mhM_10 hM_10 => ?_)
                obtain ⟨pahM_10, hMhM_10, hghM_10, hphM_10, hshM_10⟩ := hM_10
                refine w_if_eqB (n := 100) (tgt := 107) O dX6_swap_97 (by decide) rfl (fun c_11 => ?_) (fun c_11 => ?_)
                · skip
                  refine w_iincN (n := 110) (lv' := [(2, .int (nI (h + 1))), (0, .ref (gb_ad G 0)), (1, .int (nI (l)))]) O dX6_swap_107 rfl (by decide) rfl rfl ?_
                  refine w_goto (tgt := 31) O dX6_swap_110 (by decide) ?_
                  refine w_lv (lv2 := [(0, .ref (gb_ad G 0)), (1, .int (nI (l))), (2, .int (nI (h + 1)))]) [1, 2, 0] rfl ?_
                  exact ih_SI _ (by omega) (h + 1) _ _ _ _ _ rfl (by omega) (by omega) (sw_no hno2 (by rw [swB_at (by omega) hlh (by omega)]; exact c_11)) ⟨((hshM_10 (5) (by omega)).trans hThM_9.1), ((hshM_10 (6) (by omega)).trans hThM_9.2.1), ((hshM_10 (7) (by omega)).trans hThM_9.2.2.1), ((hshM_10 (8) (by omega)).trans hThM_9.2.2.2)⟩ ⟨hMhM_10.1, hMhM_10.2.1, hMhM_10.2.2⟩ hphM_10 (((((sm.rf.tr (hs2.mono (by omega) (by omega))).tr (hshM_5.mono (by omega) (by omega))).tr (hshM_7.mono (by omega) (by omega))).tr (hshM_9.mono (by omega) (by omega))).tr (hshM_10.mono (by omega) (by omega)))
                · skip
                  refine w_bipush (n := 102) O dX6_swap_100 (v := (nI 10)) (by decide) rfl ?_
                  refine w_iload_n (n := 103) O dX6_swap_102 rfl rfl rfl ?_
                  refine w_imulN (n := 104) O dX6_swap_103 rfl ?_
                  refine w_iload_n (n := 105) O dX6_swap_104 rfl rfl rfl ?_
                  refine w_iaddN (n := 106) O dX6_swap_105 rfl ?_
                  refine w_iret O dX6_swap_106 ?_
                  have e0 : a_swap T = (nI (((10 * l) + h))) := by unfold a_swap; rw [if_neg (by rw [c_2]; decide), sF_at (v := 10 * l + h) (by rw [swB_at (by omega) hlh (by omega)]; exact c_11) hno2 (by omega)]; rfl
                  rw [e0] at hQ
                  try dsimp only at hQ
                  exact hQ _ ⟨((hshM_10 (0) (by omega)).trans ((hshM_9 (0) (by omega)).trans ((hshM_7 (0) (by omega)).trans ((hshM_5 (0) (by omega)).trans ((hs2 (0) (by omega)).trans hB))))), ⟨((hshM_10 (1) (by omega)).trans ((hshM_9 (1) (by omega)).trans ((hshM_7 (1) (by omega)).trans ((hshM_5 (1) (by omega)).trans ((hs2 (1) (by omega)).trans hT.1))))), ((hshM_10 (2) (by omega)).trans ((hshM_9 (2) (by omega)).trans ((hshM_7 (2) (by omega)).trans ((hshM_5 (2) (by omega)).trans ((hs2 (2) (by omega)).trans hT.2.1))))), ((hshM_10 (3) (by omega)).trans ((hshM_9 (3) (by omega)).trans ((hshM_7 (3) (by omega)).trans ((hshM_5 (3) (by omega)).trans ((hs2 (3) (by omega)).trans hT.2.2.1))))), ((hshM_10 (4) (by omega)).trans ((hshM_9 (4) (by omega)).trans ((hshM_7 (4) (by omega)).trans ((hshM_5 (4) (by omega)).trans ((hs2 (4) (by omega)).trans hT.2.2.2)))))⟩, hok, ⟨(upN (upN T.1 (l * 6 + 2) (T.1 (h * 6 + 2)), T.2).1 (h * 6 + 2) (T.1 (l * 6 + 2)), (upN T.1 (l * 6 + 2) (T.1 (h * 6 + 2)), T.2).2), ⟨((hshM_10 (5) (by omega)).trans hThM_9.1), ((hshM_10 (6) (by omega)).trans hThM_9.2.1), ((hshM_10 (7) (by omega)).trans hThM_9.2.2.1), ((hshM_10 (8) (by omega)).trans hThM_9.2.2.2)⟩⟩, ⟨_, _, _, ⟨hMhM_10.1, hMhM_10.2.1, hMhM_10.2.2⟩, hphM_10⟩, (((((hP.kp (kp_sm hs2 (by omega))).kp (kp_sm hshM_5 (by omega))).kp (kp_sm hshM_7 (by omega))).kp (kp_sm hshM_9 (by omega))).kp (kp_sm hshM_10 (by omega))), (((((hS.kp (kp_sm hs2 (by omega))).kp (kp_sm hshM_5 (by omega))).kp (kp_sm hshM_7 (by omega))).kp (kp_sm hshM_9 (by omega))).kp (kp_sm hshM_10 (by omega))), (((((hG.kp (kp_sm hs2 (by omega))).kp (kp_sm hshM_5 (by omega))).kp (kp_sm hshM_7 (by omega))).kp (kp_sm hshM_9 (by omega))).kp (kp_sm hshM_10 (by omega))), (((((hI.kp (kp_sm hs2 (by omega))).kp (kp_sm hshM_5 (by omega))).kp (kp_sm hshM_7 (by omega))).kp (kp_sm hshM_9 (by omega))).kp (kp_sm hshM_10 (by omega))), ((hshM_10 (39) (by omega)).trans ((hshM_9 (39) (by omega)).trans ((hshM_7 (39) (by omega)).trans ((hshM_5 (39) (by omega)).trans ((hs2 (39) (by omega)).trans hK))))), (((((hH.kp (kp_sm hs2 (by omega))).kp (kp_sm hshM_5 (by omega))).kp (kp_sm hshM_7 (by omega))).kp (kp_sm hshM_9 (by omega))).kp (kp_sm hshM_10 (by omega)))⟩ (((((sm.rf.tr (hs2.mono (by omega) (by omega))).tr (hshM_5.mono (by omega) (by omega))).tr (hshM_7.mono (by omega) (by omega))).tr (hshM_9.mono (by omega) (by omega))).tr (hshM_10.mono (by omega) (by omega)))
          refine w_lv (lv2 := [(0, .ref (gb_ad G 0)), (1, .int (nI (l))), (2, .int (nI ((l + 1))))]) [1, 2, 0] rfl ?_
          exact SI _ (l + 1) V m1 pa1 am1 w1 rfl (by omega) (by omega) (fun c hc => by rcases Nat.lt_or_ge c (10 * l) with q | q; exact hno c q; exact swB_off (by omega)) hV1 hM1 hp1 hs1
    refine w_lv (lv2 := [(0, .ref (gb_ad G 0)), (1, .int (nI 0))]) [1, 0] rfl ?_
    exact SO _ 0 U _ _ _ _ rfl (Nat.zero_le _) (fun c hc => absurd hc (by omega)) ⟨((hshM_1 (5) (by omega)).trans hU.1), ((hshM_1 (6) (by omega)).trans hU.2.1), ((hshM_1 (7) (by omega)).trans hU.2.2.1), ((hshM_1 (8) (by omega)).trans hU.2.2.2)⟩ ⟨hMhM_1.1, hMhM_1.2.1, hMhM_1.2.2⟩ hphM_1 (sm.rf.tr (hshM_1.mono (by omega) (by omega)))
  · skip
    refine w_bipush (n := 13) O dX6_swap_11 (v := (-2)) (by decide) rfl ?_
    refine w_iret O dX6_swap_13 ?_
    have e0 : a_swap T = -2 := by unfold a_swap; rw [if_pos c_2]
    rw [e0] at hQ
    try dsimp only at hQ
    exact hQ _ ⟨((hshM_1 (0) (by omega)).trans hB), ⟨((hshM_1 (1) (by omega)).trans hT.1), ((hshM_1 (2) (by omega)).trans hT.2.1), ((hshM_1 (3) (by omega)).trans hT.2.2.1), ((hshM_1 (4) (by omega)).trans hT.2.2.2)⟩, hok, ⟨U, ⟨((hshM_1 (5) (by omega)).trans hU.1), ((hshM_1 (6) (by omega)).trans hU.2.1), ((hshM_1 (7) (by omega)).trans hU.2.2.1), ((hshM_1 (8) (by omega)).trans hU.2.2.2)⟩⟩, ⟨_, _, _, ⟨hMhM_1.1, hMhM_1.2.1, hMhM_1.2.2⟩, hphM_1⟩, (hP.kp (kp_sm hshM_1 (by omega))), (hS.kp (kp_sm hshM_1 (by omega))), (hG.kp (kp_sm hshM_1 (by omega))), (hI.kp (kp_sm hshM_1 (by omega))), ((hshM_1 (39) (by omega)).trans hK), (hH.kp (kp_sm hshM_1 (by omega)))⟩ (sm.rf.tr (hshM_1.mono (by omega) (by omega)))
set_option maxRecDepth 100000 in
set_option maxHeartbeats 4000000 in
theorem f_X6_keep {G : gb_G} (hW : gW G) {Q : Option Value → gb_M → Prop} {mM : gb_M} {T : Tw} {im : Nat → Tw} {kp : Nat → Bool} {bs : Nat → Nat} {ln fa : Nat} {st sf : Nat → Nat} {sn : Nat} {sh : Sh} {sc : Nat → Nat → Int32} {tn : Nat} (hC : isCW G mM T im kp bs ln fa st sf sn sh sc tn) {x : Int32}  (hQ : ∀ M', isCW G M' T ((s_keep T im kp x).1) ((s_keep T im kp x).2) bs ln fa st sf sn sh sc tn → sm mM M' 0 48 → Q (some (.int (a_keep kp x))) M') : Fn G 2 yX6_keep cX6_keep 3 (some .int) [.ref (gb_ad G 0), .int (x)] mM Q := by
  obtain ⟨hB, hT, hok, hU, hMx, hP, hS, hG, hI, hK, hH⟩ := hC
  have ok := hok.1
  have hn4 := ok.1
  have hst9 := hok.2.1
  have hln := hok.2.2.2.1
  have hsn6 := hok.2.2.2.2.2.2.1
  have hN := hW.2.2.1
  refine Fn.of hW.1 [(0, .ref (gb_ad G 0)), (1, .int (x))] (by decide) (Nat.le_of_ble_eq_true rfl) rfl ?_
  intro X O
  refine w_iload_n (n := 1) O dX6_keep_0 rfl rfl rfl ?_
  refine w_iconst (n := 2) O dX6_keep_1 (v := (nI 0)) (by decide) rfl ?_
  refine w_iconst (n := 3) O dX6_keep_2 (v := (nI 1)) (by decide) rfl ?_
  refine w_cS (n := 6) (ro := some (.int (bI (wIn (x) (nI (0)) (nI (1)))))) (R := fun mM' => mM = mM') (st := []) (st1 := [.int (bI (wIn (x) (nI (0)) (nI (1))))]) (As := [.int (x), .int (nI 0), .int (nI 1)]) O dX6_keep_3 ul_X6_66 um_X6_within (f_X6_within hW ⟨rfl, rfl⟩) rfl rfl rfl (by decide) (Nat.le_of_ble_eq_true rfl) rfl (fun mhM_1 hM_1 => ?_)
  subst hM_1
  refine w_if_neB (n := 9) (tgt := 11) O dX6_keep_6 (by decide) rfl (fun c_2 => ?_) (fun c_2 => ?_)
  · skip
    have hr_j := c_2
    obtain ⟨j, ja, jb, rfl⟩ := wIn_t (by omega) c_2 (by omega)
    have cl_j : (nI j).toNatClampNeg = j := nI_clamp (by omega)
    have hIk := cI_at hI (k := j) (by omega)
    refine w_aload_n (n := 12) O dX6_keep_11 rfl rfl rfl ?_
    refine w_getf (n := 15) O 7 dX6_keep_12 (by omega) hB rfl (by decide) uX6 uf_X6_51 rfl rfl ?_
    refine w_iload_n (n := 16) O dX6_keep_15 rfl rfl rfl ?_
    refine w_zaldB (n := 17) O dX6_keep_16 hW.2.1 (by omega) hK (by omega) (by decide) rfl ?_
    refine w_if_eqB (n := 20) (tgt := 24) O dX6_keep_17 (by decide) rfl (fun c_3 => ?_) (fun c_3 => ?_)
    · skip
      refine w_iconst (n := 25) O dX6_keep_24 (v := (nI 0)) (by decide) rfl ?_
      refine w_istore_n (n := 26) (lv' := [(2, .int (nI 0)), (0, .ref (gb_ad G 0)), (1, .int (nI (j)))]) O dX6_keep_25 rfl (by decide) rfl rfl ?_
      refine w_aload_n (n := 27) O dX6_keep_26 rfl rfl rfl ?_
      refine w_getf (n := 30) O 6 dX6_keep_27 (by omega) hB rfl (by decide) uX6 uf_X6_47 rfl rfl ?_
      refine w_iload_n (n := 31) O dX6_keep_30 rfl rfl rfl ?_
      refine w_aald (n := 32) (b := gb_ad G (31 + 4 * j)) O dX6_keep_31 (by omega) hI.1 hW.2.1.2.2.2 (vp_in_nI (by omega) (by decide)) (by rw [nI_clamp (by omega)]) rfl ?_
      refine w_aload_n (n := 33) O dX6_keep_32 rfl rfl rfl ?_
      refine w_getf (n := 36) O 0 dX6_keep_33 (by omega) hB rfl (by decide) uX6 uf_X6_10 rfl rfl ?_
      refine w_cV (n := 39) (ro := none) (R := fun mM' => isT G mM' (31 + 4 * j) T ∧ sm mM mM' (31 + 4 * j) (31 + 4 * j + 3)) (st := []) (st1 := []) (As := [.ref (gb_ad G 1)]) (b := 31 + 4 * j) O dX6_keep_36 ul_X6_87 um_X5_becomes (f_X5_becomes (T := (im j)) (U := T) hW ⟨hIk.1, hIk.2.1, hIk.2.2.1, hIk.2.2.2⟩ (by omega) ⟨hT.1, hT.2.1, hT.2.2.1, hT.2.2.2⟩ (by omega) (by omega) (fun M' h1 h2 => ⟨rfl, h1, h2⟩)) rfl (by omega) hIk.1 rfl rfl rfl rfl (by omega) (Nat.le_of_ble_eq_true rfl) rfl (fun mhM_4 hM_4 => ?_)
      obtain ⟨hThM_4, hshM_4⟩ := hM_4
      refine w_aload_n (n := 40) O dX6_keep_39 rfl rfl rfl ?_
      refine w_getf (n := 43) O 7 dX6_keep_40 (by omega) ((hshM_4 (0) (by omega)).trans hB) rfl (by decide) uX6 uf_X6_51 rfl rfl ?_
      refine w_iload_n (n := 44) O dX6_keep_43 rfl rfl rfl ?_
      refine w_iconst (n := 45) O dX6_keep_44 (v := (nI 1)) (by decide) rfl ?_
      refine w_zastB (n := 46) (v := true) O dX6_keep_45 hW.2.1 (by omega) ((hshM_4 (39) (by omega)).trans hK) (by decide) (by omega) (by decide) rfl ?_
      refine w_iload_n (n := 47) O dX6_keep_46 rfl rfl rfl ?_
      refine w_iret O dX6_keep_47 ?_
      have hIn : cI G _ (upI im j T) := cI_set (M' := (va_up mhM_4 (39) (ZB G 2 (fun k => if k = j then true else kp k)))) hI (by omega) ⟨((va_up_ne _ _ (by omega)).trans hThM_4.1), ((va_up_ne _ _ (by omega)).trans hThM_4.2.1), ((va_up_ne _ _ (by omega)).trans hThM_4.2.2.1), ((va_up_ne _ _ (by omega)).trans hThM_4.2.2.2)⟩ (fun q h1 h2 h3 => ((va_up_ne _ _ (by omega)).trans ((hshM_4 q (by omega)).trans rfl)))
      have e0 : a_keep kp (nI j) = (nI (0)) := by unfold a_keep; rw [if_pos hr_j, cl_j, c_3]; rfl
      have e1 : s_keep T im kp (nI j) = (upI im j T, upK kp j true) := by unfold s_keep; rw [if_pos hr_j, cl_j]
      rw [e0, e1] at hQ
      try dsimp only at hQ
      exact hQ _ ⟨((va_up_ne _ _ (by decide)).trans ((hshM_4 (0) (by omega)).trans hB)), ⟨((va_up_ne _ _ (by decide)).trans ((hshM_4 (1) (by omega)).trans hT.1)), ((va_up_ne _ _ (by decide)).trans ((hshM_4 (2) (by omega)).trans hT.2.1)), ((va_up_ne _ _ (by decide)).trans ((hshM_4 (3) (by omega)).trans hT.2.2.1)), ((va_up_ne _ _ (by decide)).trans ((hshM_4 (4) (by omega)).trans hT.2.2.2))⟩, ⟨hok.1, hok.2.1, fun k hk => by by_cases e : k = j; (rw [e, show upI im j T j = T from if_pos rfl]; exact ⟨ok, hst9, fun _ => rfl⟩); (rw [show upI im j T k = im k from if_neg e, show upK kp j true k = kp k from if_neg e]; exact hok.2.2.1 k hk), hok.2.2.2⟩, ((hU.kp (kp_sm hshM_4 (by omega))).kp (kp_up (by omega))), ((hMx.kp (kp_sm hshM_4 (by omega))).kp (kp_up (by omega))), ((hP.kp (kp_sm hshM_4 (by omega))).kp (kp_up (by omega))), ((hS.kp (kp_sm hshM_4 (by omega))).kp (kp_up (by omega))), ((hG.kp (kp_sm hshM_4 (by omega))).kp (kp_up (by omega))), hIn, (va_up_self _ _ _), ((hH.kp (kp_sm hshM_4 (by omega))).kp (kp_up (by omega)))⟩ ((sm.rf.tr (hshM_4.mono (by omega) (by omega))).up (by omega) (by omega))
    · skip
      refine w_iconst (n := 21) O dX6_keep_20 (v := (nI 1)) (by decide) rfl ?_
      refine w_goto (tgt := 25) O dX6_keep_21 (by decide) ?_
      refine w_istore_n (n := 26) (lv' := [(2, .int (nI 1)), (0, .ref (gb_ad G 0)), (1, .int (nI (j)))]) O dX6_keep_25 rfl (by decide) rfl rfl ?_
      refine w_aload_n (n := 27) O dX6_keep_26 rfl rfl rfl ?_
      refine w_getf (n := 30) O 6 dX6_keep_27 (by omega) hB rfl (by decide) uX6 uf_X6_47 rfl rfl ?_
      refine w_iload_n (n := 31) O dX6_keep_30 rfl rfl rfl ?_
      refine w_aald (n := 32) (b := gb_ad G (31 + 4 * j)) O dX6_keep_31 (by omega) hI.1 hW.2.1.2.2.2 (vp_in_nI (by omega) (by decide)) (by rw [nI_clamp (by omega)]) rfl ?_
      refine w_aload_n (n := 33) O dX6_keep_32 rfl rfl rfl ?_
      refine w_getf (n := 36) O 0 dX6_keep_33 (by omega) hB rfl (by decide) uX6 uf_X6_10 rfl rfl ?_
      refine w_cV (n := 39) (ro := none) (R := fun mM' => isT G mM' (31 + 4 * j) T ∧ sm mM mM' (31 + 4 * j) (31 + 4 * j + 3)) (st := []) (st1 := []) (As := [.ref (gb_ad G 1)]) (b := 31 + 4 * j) O dX6_keep_36 ul_X6_87 um_X5_becomes (f_X5_becomes (T := (im j)) (U := T) hW ⟨hIk.1, hIk.2.1, hIk.2.2.1, hIk.2.2.2⟩ (by omega) ⟨hT.1, hT.2.1, hT.2.2.1, hT.2.2.2⟩ (by omega) (by omega) (fun M' h1 h2 => ⟨rfl, h1, h2⟩)) rfl (by omega) hIk.1 rfl rfl rfl rfl (by omega) (Nat.le_of_ble_eq_true rfl) rfl (fun mhM_5 hM_5 => ?_)
      obtain ⟨hThM_5, hshM_5⟩ := hM_5
      refine w_aload_n (n := 40) O dX6_keep_39 rfl rfl rfl ?_
      refine w_getf (n := 43) O 7 dX6_keep_40 (by omega) ((hshM_5 (0) (by omega)).trans hB) rfl (by decide) uX6 uf_X6_51 rfl rfl ?_
      refine w_iload_n (n := 44) O dX6_keep_43 rfl rfl rfl ?_
      refine w_iconst (n := 45) O dX6_keep_44 (v := (nI 1)) (by decide) rfl ?_
      refine w_zastB (n := 46) (v := true) O dX6_keep_45 hW.2.1 (by omega) ((hshM_5 (39) (by omega)).trans hK) (by decide) (by omega) (by decide) rfl ?_
      refine w_iload_n (n := 47) O dX6_keep_46 rfl rfl rfl ?_
      refine w_iret O dX6_keep_47 ?_
      have hIn : cI G _ (upI im j T) := cI_set (M' := (va_up mhM_5 (39) (ZB G 2 (fun k => if k = j then true else kp k)))) hI (by omega) ⟨((va_up_ne _ _ (by omega)).trans hThM_5.1), ((va_up_ne _ _ (by omega)).trans hThM_5.2.1), ((va_up_ne _ _ (by omega)).trans hThM_5.2.2.1), ((va_up_ne _ _ (by omega)).trans hThM_5.2.2.2)⟩ (fun q h1 h2 h3 => ((va_up_ne _ _ (by omega)).trans ((hshM_5 q (by omega)).trans rfl)))
      have e0 : a_keep kp (nI j) = (nI (1)) := by unfold a_keep; rw [if_pos hr_j, cl_j, c_3]; rfl
      have e1 : s_keep T im kp (nI j) = (upI im j T, upK kp j true) := by unfold s_keep; rw [if_pos hr_j, cl_j]
      rw [e0, e1] at hQ
      try dsimp only at hQ
      exact hQ _ ⟨((va_up_ne _ _ (by decide)).trans ((hshM_5 (0) (by omega)).trans hB)), ⟨((va_up_ne _ _ (by decide)).trans ((hshM_5 (1) (by omega)).trans hT.1)), ((va_up_ne _ _ (by decide)).trans ((hshM_5 (2) (by omega)).trans hT.2.1)), ((va_up_ne _ _ (by decide)).trans ((hshM_5 (3) (by omega)).trans hT.2.2.1)), ((va_up_ne _ _ (by decide)).trans ((hshM_5 (4) (by omega)).trans hT.2.2.2))⟩, ⟨hok.1, hok.2.1, fun k hk => by by_cases e : k = j; (rw [e, show upI im j T j = T from if_pos rfl]; exact ⟨ok, hst9, fun _ => rfl⟩); (rw [show upI im j T k = im k from if_neg e, show upK kp j true k = kp k from if_neg e]; exact hok.2.2.1 k hk), hok.2.2.2⟩, ((hU.kp (kp_sm hshM_5 (by omega))).kp (kp_up (by omega))), ((hMx.kp (kp_sm hshM_5 (by omega))).kp (kp_up (by omega))), ((hP.kp (kp_sm hshM_5 (by omega))).kp (kp_up (by omega))), ((hS.kp (kp_sm hshM_5 (by omega))).kp (kp_up (by omega))), ((hG.kp (kp_sm hshM_5 (by omega))).kp (kp_up (by omega))), hIn, (va_up_self _ _ _), ((hH.kp (kp_sm hshM_5 (by omega))).kp (kp_up (by omega)))⟩ ((sm.rf.tr (hshM_5.mono (by omega) (by omega))).up (by omega) (by omega))
  · skip
    refine w_iconst (n := 10) O dX6_keep_9 (v := (-1)) (by decide) rfl ?_
    refine w_iret O dX6_keep_10 ?_
    have e0 : a_keep kp x = -1 := by unfold a_keep; rw [if_neg (by rw [c_2]; decide)]
    have e1 : s_keep T im kp x = (im, kp) := by unfold s_keep; rw [if_neg (by rw [c_2]; decide)]
    rw [e0, e1] at hQ
    try dsimp only at hQ
    exact hQ _ ⟨hB, ⟨hT.1, hT.2.1, hT.2.2.1, hT.2.2.2⟩, hok, hU, hMx, hP, hS, hG, hI, hK, hH⟩ sm.rf
set_option maxRecDepth 100000 in
set_option maxHeartbeats 4000000 in
theorem f_X6_back {G : gb_G} (hW : gW G) {Q : Option Value → gb_M → Prop} {mM : gb_M} {T : Tw} {im : Nat → Tw} {kp : Nat → Bool} {bs : Nat → Nat} {ln fa : Nat} {st sf : Nat → Nat} {sn : Nat} {sh : Sh} {sc : Nat → Nat → Int32} {tn : Nat} (hC : isCW G mM T im kp bs ln fa st sf sn sh sc tn) {x : Int32}  (hQ : ∀ M', isCW G M' (s_back T im kp x) im kp bs ln fa st sf sn sh sc tn → sm mM M' 0 48 → Q (some (.int (a_back im kp x))) M') : Fn G 2 yX6_back cX6_back 2 (some .int) [.ref (gb_ad G 0), .int (x)] mM Q := by
  obtain ⟨hB, hT, hok, hU, hMx, hP, hS, hG, hI, hK, hH⟩ := hC
  have ok := hok.1
  have hn4 := ok.1
  have hst9 := hok.2.1
  have hln := hok.2.2.2.1
  have hsn6 := hok.2.2.2.2.2.2.1
  have hN := hW.2.2.1
  refine Fn.of hW.1 [(0, .ref (gb_ad G 0)), (1, .int (x))] (by decide) (Nat.le_of_ble_eq_true rfl) rfl ?_
  intro X O
  refine w_iload_n (n := 1) O dX6_back_0 rfl rfl rfl ?_
  refine w_iconst (n := 2) O dX6_back_1 (v := (nI 0)) (by decide) rfl ?_
  refine w_iconst (n := 3) O dX6_back_2 (v := (nI 1)) (by decide) rfl ?_
  refine w_cS (n := 6) (ro := some (.int (bI (wIn (x) (nI (0)) (nI (1)))))) (R := fun mM' => mM = mM') (st := []) (st1 := [.int (bI (wIn (x) (nI (0)) (nI (1))))]) (As := [.int (x), .int (nI 0), .int (nI 1)]) O dX6_back_3 ul_X6_66 um_X6_within (f_X6_within hW ⟨rfl, rfl⟩) rfl rfl rfl (by decide) (Nat.le_of_ble_eq_true rfl) rfl (fun mhM_1 hM_1 => ?_)
  subst hM_1
  refine w_if_neB (n := 9) (tgt := 11) O dX6_back_6 (by decide) rfl (fun c_2 => ?_) (fun c_2 => ?_)
  · skip
    have hr_j := c_2
    obtain ⟨j, ja, jb, rfl⟩ := wIn_t (by omega) c_2 (by omega)
    have cl_j : (nI j).toNatClampNeg = j := nI_clamp (by omega)
    have hIk := cI_at hI (k := j) (by omega)
    refine w_aload_n (n := 12) O dX6_back_11 rfl rfl rfl ?_
    refine w_getf (n := 15) O 7 dX6_back_12 (by omega) hB rfl (by decide) uX6 uf_X6_51 rfl rfl ?_
    refine w_iload_n (n := 16) O dX6_back_15 rfl rfl rfl ?_
    refine w_zaldB (n := 17) O dX6_back_16 hW.2.1 (by omega) hK (by omega) (by decide) rfl ?_
    refine w_if_neB (n := 20) (tgt := 23) O dX6_back_17 (by decide) rfl (fun c_3 => ?_) (fun c_3 => ?_)
    · skip
      refine w_aload_n (n := 24) O dX6_back_23 rfl rfl rfl ?_
      refine w_getf (n := 27) O 0 dX6_back_24 (by omega) hB rfl (by decide) uX6 uf_X6_10 rfl rfl ?_
      refine w_aload_n (n := 28) O dX6_back_27 rfl rfl rfl ?_
      refine w_getf (n := 31) O 6 dX6_back_28 (by omega) hB rfl (by decide) uX6 uf_X6_47 rfl rfl ?_
      refine w_iload_n (n := 32) O dX6_back_31 rfl rfl rfl ?_
      refine w_aald (n := 33) (b := gb_ad G (31 + 4 * j)) O dX6_back_32 (by omega) hI.1 hW.2.1.2.2.2 (vp_in_nI (by omega) (by decide)) (by rw [nI_clamp (by omega)]) rfl ?_
      refine w_cV (n := 36) (ro := none) (R := fun mM' => isT G mM' (1) (im j) ∧ sm mM mM' (1) (1 + 3)) (st := []) (st1 := []) (As := [.ref (gb_ad G (31 + 4 * j))]) (b := 1) O dX6_back_33 ul_X6_87 um_X5_becomes (f_X5_becomes (T := T) (U := (im j)) hW ⟨hT.1, hT.2.1, hT.2.2.1, hT.2.2.2⟩ (by omega) ⟨hIk.1, hIk.2.1, hIk.2.2.1, hIk.2.2.2⟩ (by omega) (by omega) (fun M' h1 h2 => ⟨rfl, h1, h2⟩)) rfl (by omega) hT.1 rfl rfl rfl rfl (by omega) (Nat.le_of_ble_eq_true rfl) rfl (fun mhM_4 hM_4 => ?_)
      obtain ⟨hThM_4, hshM_4⟩ := hM_4
      refine w_aload_n (n := 37) O dX6_back_36 rfl rfl rfl ?_
      refine w_getf (n := 40) O 0 dX6_back_37 (by omega) ((hshM_4 (0) (by omega)).trans hB) rfl (by decide) uX6 uf_X6_10 rfl rfl ?_
      refine w_getf (n := 43) O 6 dX6_back_40 (by omega) hThM_4.1 rfl (by decide) uX5 uf_X6_103 rfl rfl ?_
      refine w_iret O dX6_back_43 ?_
      have e0 : a_back im kp (nI j) = (nI ((im j).2.2.2.2.2.2)) := by unfold a_back; rw [if_pos hr_j, cl_j, if_pos c_3]
      have e1 : s_back T im kp (nI j) = im j := by unfold s_back; rw [cl_j, if_pos ⟨hr_j, c_3⟩]
      rw [e0, e1] at hQ
      try dsimp only at hQ
      exact hQ _ ⟨((hshM_4 (0) (by omega)).trans hB), ⟨hThM_4.1, hThM_4.2.1, hThM_4.2.2.1, hThM_4.2.2.2⟩, ⟨(hok.2.2.1 j (by omega)).1, (hok.2.2.1 j (by omega)).2.1, fun k hk => ⟨(hok.2.2.1 k hk).1, (hok.2.2.1 k hk).2.1, fun q => ((hok.2.2.1 k hk).2.2 q).trans ((hok.2.2.1 j (by omega)).2.2 c_3).symm⟩, hok.2.2.2⟩, (hU.kp (kp_sm hshM_4 (by omega))), (hMx.kp (kp_sm hshM_4 (by omega))), (hP.kp (kp_sm hshM_4 (by omega))), (hS.kp (kp_sm hshM_4 (by omega))), (hG.kp (kp_sm hshM_4 (by omega))), (hI.kp (kp_sm hshM_4 (by omega))), ((hshM_4 (39) (by omega)).trans hK), (hH.kp (kp_sm hshM_4 (by omega)))⟩ (sm.rf.tr (hshM_4.mono (by omega) (by omega)))
    · skip
      refine w_bipush (n := 22) O dX6_back_20 (v := (-2)) (by decide) rfl ?_
      refine w_iret O dX6_back_22 ?_
      have e0 : a_back im kp (nI j) = -2 := by unfold a_back; rw [if_pos hr_j, cl_j, if_neg (by rw [c_3]; decide)]
      have e1 : s_back T im kp (nI j) = T := by unfold s_back; rw [cl_j, if_neg (fun q => by rw [c_3] at q; exact absurd q.2 (by decide))]
      rw [e0, e1] at hQ
      try dsimp only at hQ
      exact hQ _ ⟨hB, ⟨hT.1, hT.2.1, hT.2.2.1, hT.2.2.2⟩, hok, hU, hMx, hP, hS, hG, hI, hK, hH⟩ sm.rf
  · skip
    refine w_iconst (n := 10) O dX6_back_9 (v := (-1)) (by decide) rfl ?_
    refine w_iret O dX6_back_10 ?_
    have e0 : a_back im kp x = -1 := by unfold a_back; rw [if_neg (by rw [c_2]; decide)]
    have e1 : s_back T im kp x = T := by unfold s_back; rw [if_neg (fun q => by rw [c_2] at q; exact absurd q.1 (by decide))]
    rw [e0, e1] at hQ
    try dsimp only at hQ
    exact hQ _ ⟨hB, ⟨hT.1, hT.2.1, hT.2.2.1, hT.2.2.2⟩, hok, hU, hMx, hP, hS, hG, hI, hK, hH⟩ sm.rf
