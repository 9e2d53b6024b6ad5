set_option maxRecDepth 100000 in
set_option maxHeartbeats 4000000 in
theorem f_X6_sheet {G : gb_G} (hW : gW G) {Q : Option Value → gb_M → Prop} {mM : gb_M} {T : Tw} {im : Nat → Tw} {kp : Nat → Bool} {bs : Nat → Nat} {ln fa : Nat} {st sf : Nat → Nat} {sn : Nat} {sh : Sh} {sc : Nat → Nat → Int32} {tn : Nat} (hC : isCW G mM T im kp bs ln fa st sf sn sh sc tn) {k lane n : Int32}  (hQ : ∀ M', isCW G M' T im kp bs ln fa st sf sn ((s_sheet sh sc k lane n).1) ((s_sheet sh sc k lane n).2) tn → sm mM M' 0 48 → Q (some (.int (a_sheet k lane n))) M') : Fn G 2 yX6_sheet cX6_sheet 4 (some .int) [.ref (gb_ad G 0), .int (k), .int (lane), .int (n)] mM Q := by
  obtain ⟨hB, hT, hok, hU, hMx, hP, hS, hG, hI, hK, hH⟩ := hC
  have ok := hok.1
  have hn4 := ok.1
  have hst9 := hok.2.1
  have hln := hok.2.2.2.1
  have hsn6 := hok.2.2.2.2.2.2.1
  have hN := hW.2.2.1
  refine Fn.of hW.1 [(0, .ref (gb_ad G 0)), (1, .int (k)), (2, .int (lane)), (3, .int (n))] (by decide) (Nat.le_of_ble_eq_true rfl) rfl ?_
  intro X O
  refine w_iload_n (n := 1) O dX6_sheet_0 rfl rfl rfl ?_
  refine w_cS (n := 4) (ro := some (.int (bI (wIn (k) (nI 0) (nI 3))))) (R := fun mM' => mM = mM') (st := []) (st1 := [.int (bI (wIn (k) (nI 0) (nI 3)))]) (As := [.int (k)]) O dX6_sheet_1 ul_X6_239 um_X6_isSheet (f_X6_isSheet hW ⟨rfl, rfl⟩) rfl rfl rfl (by decide) (Nat.le_of_ble_eq_true rfl) rfl (fun mhM_1 hM_1 => ?_)
  subst hM_1
  refine w_if_eqB (n := 7) (tgt := 22) O dX6_sheet_4 (by decide) rfl (fun c_2 => ?_) (fun c_2 => ?_)
  · skip
    refine w_iconst (n := 23) O dX6_sheet_22 (v := (-1)) (by decide) rfl ?_
    refine w_iret O dX6_sheet_23 ?_
    have e0 : a_sheet k lane n = -1 := by unfold a_sheet; rw [if_neg (by rw [show shOk k lane n = false from by simp [shOk, c_2]]; decide)]
    have e1 : s_sheet sh sc k lane n = (sh, sc) := by unfold s_sheet; rw [if_neg (fun z => by rw [show shOk k lane n = false from by simp [shOk, c_2]] at z; exact absurd z.1 (by decide))]
    rw [e0, e1] at hQ
    try dsimp only at hQ
    exact hQ _ ⟨hB, ⟨hT.1, hT.2.1, hT.2.2.1, hT.2.2.2⟩, hok, hU, hMx, hP, hS, hG, hI, hK, hH⟩ sm.rf
  · skip
    have hr_j := c_2
    obtain ⟨j, ja, jb, rfl⟩ := wIn_t (by omega) c_2 (by omega)
    have cl_j : (nI j).toNatClampNeg = j := nI_clamp (by omega)
    refine w_iload_n (n := 8) O dX6_sheet_7 rfl rfl rfl ?_
    refine w_iconst (n := 9) O dX6_sheet_8 (v := (nI 0)) (by decide) rfl ?_
    refine w_iconst (n := 10) O dX6_sheet_9 (v := (nI 2)) (by decide) rfl ?_
    refine w_cS (n := 13) (ro := some (.int (bI (wIn (lane) (nI (0)) (nI (2)))))) (R := fun mM' => mM = mM') (st := []) (st1 := [.int (bI (wIn (lane) (nI (0)) (nI (2))))]) (As := [.int (lane), .int (nI 0), .int (nI 2)]) O dX6_sheet_10 ul_X6_66 um_X6_within (f_X6_within hW ⟨rfl, rfl⟩) rfl rfl rfl (by decide) (Nat.le_of_ble_eq_true rfl) rfl (fun mhM_3 hM_3 => ?_)
    subst hM_3
    refine w_if_eqB (n := 16) (tgt := 22) O dX6_sheet_13 (by decide) rfl (fun c_4 => ?_) (fun c_4 => ?_)
    · skip
      refine w_iconst (n := 23) O dX6_sheet_22 (v := (-1)) (by decide) rfl ?_
      refine w_iret O dX6_sheet_23 ?_
      have e0 : a_sheet (nI j) lane n = -1 := by unfold a_sheet; rw [if_neg (by rw [show shOk (nI j) lane n = false from by simp [shOk, c_4]]; decide)]
      have e1 : s_sheet sh sc (nI j) lane n = (sh, sc) := by unfold s_sheet; rw [if_neg (fun z => by rw [show shOk (nI j) lane n = false from by simp [shOk, c_4]] at z; exact absurd z.1 (by decide))]
      rw [e0, e1] at hQ
      try dsimp only at hQ
      exact hQ _ ⟨hB, ⟨hT.1, hT.2.1, hT.2.2.1, hT.2.2.2⟩, hok, hU, hMx, hP, hS, hG, hI, hK, hH⟩ sm.rf
    · skip
      have hr_q := c_4
      obtain ⟨q, qa, qb, rfl⟩ := wIn_t (by omega) c_4 (by omega)
      have cl_q : (nI q).toNatClampNeg = q := nI_clamp (by omega)
      refine w_iload_n (n := 17) O dX6_sheet_16 rfl rfl rfl ?_
      refine w_bipush (n := 19) O dX6_sheet_17 (v := (nI 40)) (by decide) rfl ?_
      refine w_icmp_le (n := 22) (tgt := 24) O dX6_sheet_19 (by decide) rfl (fun c_5 => ?_) (fun c_5 => ?_)
      · skip
        have hle40 := c_5
        refine w_iload_n (n := 25) O dX6_sheet_24 rfl rfl rfl ?_
        refine w_if_ge (n := 28) (tgt := 31) O dX6_sheet_25 (by decide) rfl (fun c_6 => ?_) (fun c_6 => ?_)
        · skip
          have hnneg : ¬ n < 0 := Int32.not_lt.mpr c_6
          obtain ⟨t, ht, rfl⟩ := le_nI (by decide) hnneg hle40
          have cl_t : (nI t).toNatClampNeg = t := nI_clamp (by omega)
          obtain ⟨pf, hpf, hSk⟩ := hH.2 j (by omega)
          have hla2 : laI (sh j) ≤ 2 := by cases e : sh j with | none => exact Nat.zero_le _ | some q => exact (hok.2.2.2.2.2.2.2.2.1 j (by omega) q e).1
          refine w_aload_n (n := 32) O dX6_sheet_31 rfl rfl rfl ?_
          refine w_getf (n := 35) O 8 dX6_sheet_32 (by omega) hB rfl (by decide) uX6 uf_X6_58 rfl rfl ?_
          refine w_iload_n (n := 36) O dX6_sheet_35 rfl rfl rfl ?_
          refine w_aald (n := 37) (b := gb_ad G (41 + 2 * j)) O dX6_sheet_36 (by omega) hH.1 hW.2.1.2.2.1 (vp_in_nI (by omega) (by decide)) (by rw [nI_clamp (by omega)]) rfl ?_
          refine w_iload_n (n := 38) O dX6_sheet_37 rfl rfl rfl ?_
          refine w_iload_n (n := 39) O dX6_sheet_38 rfl rfl rfl ?_
          refine w_cV (n := 42) (ro := none) (R := fun mM' => isS G mM' (41 + 2 * j) (nI t) pf q (fun _ => nI 0) ∧ sm mM mM' (41 + 2 * j) (41 + 2 * j + 1)) (st := []) (st1 := []) (As := [.int (nI (q)), .int (nI (t))]) (b := 41 + 2 * j) O dX6_sheet_39 ul_X6_242 um_X3_renew (f_X3_renew hW ⟨hSk.1, hSk.2⟩ (by omega) (fun M' h1 h2 => ⟨rfl, h1, h2⟩)) rfl (by omega) hSk.1 rfl rfl rfl rfl (by decide) (Nat.le_of_ble_eq_true rfl) rfl (fun mhM_7 hM_7 => ?_)
          obtain ⟨hShM_7, hshM_7⟩ := hM_7
          refine w_iconst (n := 43) O dX6_sheet_42 (v := (nI 1)) (by decide) rfl ?_
          refine w_iret O dX6_sheet_43 ?_
          have hHn : cH G _ (upS sh j (some (q, t))) (upC sc j (fun _ => nI 0)) := cH_set (M' := mhM_7) hH (by omega) ⟨hShM_7.1, hShM_7.2⟩ hpf (fun q h1 h2 h3 => ((hshM_7 q (by omega)).trans rfl))
          have e0 : a_sheet (nI j) (nI q) (nI t) = (nI (1)) := by unfold a_sheet; rw [if_pos (by unfold shOk; rw [hr_j, hr_q, decide_eq_true hle40]; rfl), if_neg hnneg]; rfl
          have e1 : s_sheet sh sc (nI j) (nI q) (nI t) = (upS sh j (some (q, t)), upC sc j (fun _ => nI 0)) := by unfold s_sheet; rw [if_pos ⟨by unfold shOk; rw [hr_j, hr_q, decide_eq_true hle40]; rfl, hnneg⟩, cl_j, cl_q, cl_t]
          rw [e0, e1] at hQ
          try dsimp only at hQ
          exact hQ _ ⟨((hshM_7 (0) (by omega)).trans hB), ⟨((hshM_7 (1) (by omega)).trans hT.1), ((hshM_7 (2) (by omega)).trans hT.2.1), ((hshM_7 (3) (by omega)).trans hT.2.2.1), ((hshM_7 (4) (by omega)).trans hT.2.2.2)⟩, ⟨hok.1, hok.2.1, hok.2.2.1, hok.2.2.2.1, hok.2.2.2.2.1, hok.2.2.2.2.2.1, hok.2.2.2.2.2.2.1, hok.2.2.2.2.2.2.2.1, fun k hk z hz => by by_cases e : k = j; (rw [e, show upS sh j (some (q, t)) j = some (q, t) from if_pos rfl] at hz; cases hz; exact ⟨qb, ht⟩); (rw [show upS sh j (some (q, t)) k = sh k from if_neg e] at hz; exact hok.2.2.2.2.2.2.2.2.1 k hk z hz), hok.2.2.2.2.2.2.2.2.2⟩, (hU.kp (kp_sm hshM_7 (by omega))), (hMx.kp (kp_sm hshM_7 (by omega))), (hP.kp (kp_sm hshM_7 (by omega))), (hS.kp (kp_sm hshM_7 (by omega))), (hG.kp (kp_sm hshM_7 (by omega))), (hI.kp (kp_sm hshM_7 (by omega))), ((hshM_7 (39) (by omega)).trans hK), hHn⟩ (sm.rf.tr (hshM_7.mono (by omega) (by omega)))
        · skip
          have hneg := Int32.not_le.mp c_6
          refine w_bipush (n := 30) O dX6_sheet_28 (v := (-14)) (by decide) rfl ?_
          refine w_iret O dX6_sheet_30 ?_
          have e0 : a_sheet (nI j) (nI q) n = -14 := by unfold a_sheet; rw [if_pos (by unfold shOk; rw [hr_j, hr_q, decide_eq_true hle40]; rfl), if_pos hneg]
          have e1 : s_sheet sh sc (nI j) (nI q) n = (sh, sc) := by unfold s_sheet; rw [if_neg (fun z => z.2 hneg)]
          rw [e0, e1] at hQ
          try dsimp only at hQ
          exact hQ _ ⟨hB, ⟨hT.1, hT.2.1, hT.2.2.1, hT.2.2.2⟩, hok, hU, hMx, hP, hS, hG, hI, hK, hH⟩ sm.rf
      · skip
        refine w_iconst (n := 23) O dX6_sheet_22 (v := (-1)) (by decide) rfl ?_
        refine w_iret O dX6_sheet_23 ?_
        have e0 : a_sheet (nI j) (nI q) n = -1 := by unfold a_sheet; rw [if_neg (by rw [show shOk (nI j) (nI q) n = false from by unfold shOk; rw [decide_eq_false c_5]; simp]; decide)]
        have e1 : s_sheet sh sc (nI j) (nI q) n = (sh, sc) := by unfold s_sheet; rw [if_neg (fun z => by rw [show shOk (nI j) (nI q) n = false from by unfold shOk; rw [decide_eq_false c_5]; simp] at z; exact absurd z.1 (by decide))]
        rw [e0, e1] at hQ
        try dsimp only at hQ
        exact hQ _ ⟨hB, ⟨hT.1, hT.2.1, hT.2.2.1, hT.2.2.2⟩, hok, hU, hMx, hP, hS, hG, hI, hK, hH⟩ sm.rf
set_option maxRecDepth 100000 in
set_option maxHeartbeats 4000000 in
theorem f_X6_lay {G : gb_G} (hW : gW G) {Q : Option Value → gb_M → Prop} {mM : gb_M} {T : Tw} {im : Nat → Tw} {kp : Nat → Bool} {bs : Nat → Nat} {ln fa : Nat} {st sf : Nat → Nat} {sn : Nat} {sh : Sh} {sc : Nat → Nat → Int32} {tn : Nat} (hC : isCW G mM T im kp bs ln fa st sf sn sh sc tn) {k i v : Int32}  (hQ : ∀ M', isCW G M' T im kp bs ln fa st sf sn sh (s_lay sh sc k i v) tn → sm mM M' 0 48 → Q (some (.int (a_lay sh k i))) M') : Fn G 2 yX6_lay cX6_lay 5 (some .int) [.ref (gb_ad G 0), .int (k), .int (i), .int (v)] mM Q := by
  obtain ⟨hB, hT, hok, hU, hMx, hP, hS, hG, hI, hK, hH⟩ := hC
  have ok := hok.1
  have hn4 := ok.1
  have hst9 := hok.2.1
  have hln := hok.2.2.2.1
  have hsn6 := hok.2.2.2.2.2.2.1
  have hN := hW.2.2.1
  refine Fn.of hW.1 [(0, .ref (gb_ad G 0)), (1, .int (k)), (2, .int (i)), (3, .int (v))] (by decide) (Nat.le_of_ble_eq_true rfl) rfl ?_
  intro X O
  refine w_iload_n (n := 1) O dX6_lay_0 rfl rfl rfl ?_
  refine w_cS (n := 4) (ro := some (.int (bI (wIn (k) (nI 0) (nI 3))))) (R := fun mM' => mM = mM') (st := []) (st1 := [.int (bI (wIn (k) (nI 0) (nI 3)))]) (As := [.int (k)]) O dX6_lay_1 ul_X6_239 um_X6_isSheet (f_X6_isSheet hW ⟨rfl, rfl⟩) rfl rfl rfl (by decide) (Nat.le_of_ble_eq_true rfl) rfl (fun mhM_1 hM_1 => ?_)
  subst hM_1
  refine w_if_neB (n := 7) (tgt := 9) O dX6_lay_4 (by decide) rfl (fun c_2 => ?_) (fun c_2 => ?_)
  · skip
    have hr_j := c_2
    obtain ⟨j, ja, jb, rfl⟩ := wIn_t (by omega) c_2 (by omega)
    have cl_j : (nI j).toNatClampNeg = j := nI_clamp (by omega)
    obtain ⟨pf, hpf, hSk⟩ := hH.2 j (by omega)
    have hla2 : laI (sh j) ≤ 2 := by cases e : sh j with | none => exact Nat.zero_le _ | some q => exact (hok.2.2.2.2.2.2.2.2.1 j (by omega) q e).1
    refine w_aload_n (n := 10) O dX6_lay_9 rfl rfl rfl ?_
    refine w_getf (n := 13) O 8 dX6_lay_10 (by omega) hB rfl (by decide) uX6 uf_X6_58 rfl rfl ?_
    refine w_iload_n (n := 14) O dX6_lay_13 rfl rfl rfl ?_
    refine w_aald (n := 15) (b := gb_ad G (41 + 2 * j)) O dX6_lay_14 (by omega) hH.1 hW.2.1.2.2.1 (vp_in_nI (by omega) (by decide)) (by rw [nI_clamp (by omega)]) rfl ?_
    refine w_iload_n (n := 16) O dX6_lay_15 rfl rfl rfl ?_
    refine w_cV (n := 19) (ro := some (.int (nI (fltAt (szI (sh j)) (i))))) (R := fun mM' => mM = mM') (st := []) (st1 := [.int (nI (fltAt (szI (sh j)) (i)))]) (As := [.int (i)]) (b := 41 + 2 * j) O dX6_lay_16 ul_X6_246 um_X3_faultAt (f_X3_faultAt hW ⟨hSk.1, hSk.2⟩ (by omega) ⟨rfl, rfl⟩) rfl (by omega) hSk.1 rfl rfl rfl rfl (by decide) (Nat.le_of_ble_eq_true rfl) rfl (fun mhM_3 hM_3 => ?_)
    subst hM_3
    have hfl := fltAt_le (szI (sh j)) i
    refine w_istore (n := 21) (lv' := [(4, .int (nI (fltAt (szI (sh j)) (i)))), (0, .ref (gb_ad G 0)), (1, .int (nI (j))), (2, .int (i)), (3, .int (v))]) O dX6_lay_19 (by decide) rfl rfl ?_
    refine w_iload (n := 23) O dX6_lay_21 rfl rfl ?_
    refine w_if_eqN (n := 26) (tgt := 32) O dX6_lay_23 (by omega) (by decide) rfl (fun c_4 => ?_) (fun c_4 => ?_)
    · skip
      obtain ⟨z, t, hz, rfl, htz⟩ := flt0 (fun z hz => (hok.2.2.2.2.2.2.2.2.1 j (by omega) z hz).2) c_4
      have hz40 := (hok.2.2.2.2.2.2.2.2.1 j (by omega) z hz).2
      have cl_t : (nI t).toNatClampNeg = t := nI_clamp (by omega)
      refine w_aload_n (n := 33) O dX6_lay_32 rfl rfl rfl ?_
      refine w_getf (n := 36) O 8 dX6_lay_33 (by omega) hB rfl (by decide) uX6 uf_X6_58 rfl rfl ?_
      refine w_iload_n (n := 37) O dX6_lay_36 rfl rfl rfl ?_
      refine w_aald (n := 38) (b := gb_ad G (41 + 2 * j)) O dX6_lay_37 (by omega) hH.1 hW.2.1.2.2.1 (vp_in_nI (by omega) (by decide)) (by rw [nI_clamp (by omega)]) rfl ?_
      refine w_iload_n (n := 39) O dX6_lay_38 rfl rfl rfl ?_
      refine w_iload_n (n := 40) O dX6_lay_39 rfl rfl rfl ?_
      refine w_cV (n := 43) (ro := none) (R := fun mM' => isS G mM' (41 + 2 * j) (szI (sh j)) pf (laI (sh j)) (upd (sc j) t (laneV (laI (sh j)) (v))) ∧ sm mM mM' (41 + 2 * j) (41 + 2 * j + 1)) (st := []) (st1 := []) (As := [.int (nI (t)), .int (v)]) (b := 41 + 2 * j) O dX6_lay_40 ul_X6_249 um_X3_put (f_X3_put hW ⟨hSk.1, hSk.2⟩ (by omega) (by omega) (by omega) (fun M' h1 h2 => ⟨rfl, h1, h2⟩)) rfl (by omega) hSk.1 rfl rfl rfl rfl (by decide) (Nat.le_of_ble_eq_true rfl) rfl (fun mhM_5 hM_5 => ?_)
      obtain ⟨hShM_5, hshM_5⟩ := hM_5
      refine w_iconst (n := 44) O dX6_lay_43 (v := (nI 1)) (by decide) rfl ?_
      refine w_iret O dX6_lay_44 ?_
      have hHn : cH G _ (upS sh j (sh j)) (upC sc j (upd (sc j) t (laneV (laI (sh j)) v))) := cH_set (M' := mhM_5) hH (by omega) ⟨hShM_5.1, hShM_5.2⟩ hpf (fun q h1 h2 h3 => ((hshM_5 q (by omega)).trans rfl))
      rw [show upS sh j (sh j) = sh from funext (fun q => by unfold upS; split; (rename_i e; rw [e]); rfl)] at hHn
      have e0 : a_lay sh (nI j) (nI t) = (nI (1)) := by unfold a_lay layF; rw [if_pos hr_j, cl_j, if_pos c_4]; rfl
      have e1 : s_lay sh sc (nI j) (nI t) v = upC sc j (upd (sc j) t (laneV (laI (sh j)) v)) := by unfold s_lay layF; rw [cl_j, cl_t, if_pos ⟨hr_j, c_4⟩]
      rw [e0, e1] at hQ
      try dsimp only at hQ
      exact hQ _ ⟨((hshM_5 (0) (by omega)).trans hB), ⟨((hshM_5 (1) (by omega)).trans hT.1), ((hshM_5 (2) (by omega)).trans hT.2.1), ((hshM_5 (3) (by omega)).trans hT.2.2.1), ((hshM_5 (4) (by omega)).trans hT.2.2.2)⟩, hok, (hU.kp (kp_sm hshM_5 (by omega))), (hMx.kp (kp_sm hshM_5 (by omega))), (hP.kp (kp_sm hshM_5 (by omega))), (hS.kp (kp_sm hshM_5 (by omega))), (hG.kp (kp_sm hshM_5 (by omega))), (hI.kp (kp_sm hshM_5 (by omega))), ((hshM_5 (39) (by omega)).trans hK), hHn⟩ (sm.rf.tr (hshM_5.mono (by omega) (by omega)))
    · skip
      refine w_bipush (n := 28) O dX6_lay_26 (v := (-10)) (by decide) rfl ?_
      refine w_iload (n := 30) O dX6_lay_28 rfl rfl ?_
      refine w_isub (n := 31) O dX6_lay_30 rfl ?_
      refine w_iret O dX6_lay_31 ?_
      have e0 : a_lay sh (nI j) i = (((-10) - (nI (fltAt (szI (sh j)) (i))))) := by unfold a_lay layF; rw [if_pos hr_j, cl_j, if_neg c_4]
      have e1 : s_lay sh sc (nI j) i v = sc := by unfold s_lay layF; rw [cl_j, if_neg (fun z => c_4 z.2)]
      rw [e0, e1] at hQ
      try dsimp only at hQ
      exact hQ _ ⟨hB, ⟨hT.1, hT.2.1, hT.2.2.1, hT.2.2.2⟩, hok, hU, hMx, hP, hS, hG, hI, hK, hH⟩ sm.rf
  · skip
    refine w_iconst (n := 8) O dX6_lay_7 (v := (-1)) (by decide) rfl ?_
    refine w_iret O dX6_lay_8 ?_
    have e0 : a_lay sh k i = -1 := by unfold a_lay; rw [if_neg (by rw [c_2]; decide)]
    have e1 : s_lay sh sc k i v = sc := by unfold s_lay; rw [if_neg (fun z => by rw [c_2] at z; exact absurd z.1 (by decide))]
    rw [e0, e1] at hQ
    try dsimp only at hQ
    exact hQ _ ⟨hB, ⟨hT.1, hT.2.1, hT.2.2.1, hT.2.2.2⟩, hok, hU, hMx, hP, hS, hG, hI, hK, hH⟩ sm.rf
set_option maxRecDepth 100000 in
set_option maxHeartbeats 4000000 in
theorem f_X6_count {G : gb_G} (hW : gW G) {Q : Option Value → gb_M → Prop} {mM : gb_M} {T : Tw} {im : Nat → Tw} {kp : Nat → Bool} {bs : Nat → Nat} {ln fa : Nat} {st sf : Nat → Nat} {sn : Nat} {sh : Sh} {sc : Nat → Nat → Int32} {tn : Nat} (hC : isCW G mM T im kp bs ln fa st sf sn sh sc tn) {x : Int32}  (hQ : ∀ M', isCW G M' T im kp bs ln fa st sf sn sh sc tn → sm mM M' 0 48 → Q (some (.int (a_count T kp ln sn sh x))) M') : Fn G 5 yX6_count cX6_count 2 (some .int) [.ref (gb_ad G 0), .int (x)] mM Q := by
  obtain ⟨hB, hT, hok, hU, hMx, hP, hS, hG, hI, hK, hH⟩ := hC
  have ok := hok.1
  have hn4 := ok.1
  have hst9 := hok.2.1
  have hln := hok.2.2.2.1
  have hsn6 := hok.2.2.2.2.2.2.1
  obtain ⟨pl, so, sa, nu, hP, hPb⟩ := hP
  obtain ⟨ft, ln2, lo, hi, le, gi, mo, gu, ts, am2, gv, tl, hG⟩ := hG
  have hN := hW.2.2.1
  refine Fn.of hW.1 [(0, .ref (gb_ad G 0)), (1, .int (x))] (by decide) (Nat.le_of_ble_eq_true rfl) rfl ?_
  intro X O
  refine w_iload_n (n := 1) O dX6_count_0 rfl rfl rfl ?_
  rcases sw_in x 5 (by decide) with ⟨wsw_1, hwsw_1, hxsw_1⟩ | sw_1
  · rcases (show wsw_1 = 0 ∨ wsw_1 = 1 ∨ wsw_1 = 2 ∨ wsw_1 = 3 ∨ wsw_1 = 4 ∨ wsw_1 = 5 by omega) with rfl | rfl | rfl | rfl | rfl | rfl
    · skip
      subst hxsw_1
      refine w_tableIn (tgt := 40) O dX6_count_1 (by decide) (by decide) rfl (by decide) ?_
      refine w_aload_n (n := 41) O dX6_count_40 rfl rfl rfl ?_
      refine w_getf (n := 44) O 5 dX6_count_41 (by omega) hB rfl (by decide) uX6 uf_X6_43 rfl rfl ?_
      refine w_getf (n := 47) O 2 dX6_count_44 (by omega) hG.1 rfl (by decide) uX0 uf_X6_91 rfl rfl ?_
      refine w_iret O dX6_count_47 ?_
      have e0 : a_count T kp ln sn sh (nI 0) = (nI (sn)) := by unfold a_count; rw [if_pos rfl]
      rw [e0] at hQ
      try dsimp only at hQ
      exact hQ _ ⟨hB, ⟨hT.1, hT.2.1, hT.2.2.1, hT.2.2.2⟩, hok, hU, hMx, ⟨_, _, _, _, ⟨hP.1, hP.2⟩, hPb⟩, hS, ⟨_, _, _, _, _, _, _, _, _, _, _, _, ⟨hG.1, hG.2.1, hG.2.2.1, hG.2.2.2.1, hG.2.2.2.2.1, hG.2.2.2.2.2.1, hG.2.2.2.2.2.2.1, hG.2.2.2.2.2.2.2.1, hG.2.2.2.2.2.2.2.2.1, hG.2.2.2.2.2.2.2.2.2.1, hG.2.2.2.2.2.2.2.2.2.2⟩⟩, hI, hK, hH⟩ sm.rf
    · skip
      subst hxsw_1
      refine w_tableIn (tgt := 48) O dX6_count_1 (by decide) (by decide) rfl (by decide) ?_
      refine w_aload_n (n := 49) O dX6_count_48 rfl rfl rfl ?_
      refine w_getf (n := 52) O 7 dX6_count_49 (by omega) hB rfl (by decide) uX6 uf_X6_51 rfl rfl ?_
      refine w_iconst (n := 53) O dX6_count_52 (v := (nI 0)) (by decide) rfl ?_
      refine w_zaldB (n := 54) O dX6_count_53 hW.2.1 (by omega) hK (by omega) (by decide) rfl ?_
      refine w_if_eqB (n := 57) (tgt := 61) O dX6_count_54 (by decide) rfl (fun c_2 => ?_) (fun c_2 => ?_)
      · skip
        refine w_iconst (n := 62) O dX6_count_61 (v := (nI 0)) (by decide) rfl ?_
        refine w_aload_n (n := 63) O dX6_count_62 rfl rfl rfl ?_
        refine w_getf (n := 66) O 7 dX6_count_63 (by omega) hB rfl (by decide) uX6 uf_X6_51 rfl rfl ?_
        refine w_iconst (n := 67) O dX6_count_66 (v := (nI 1)) (by decide) rfl ?_
        refine w_zaldB (n := 68) O dX6_count_67 hW.2.1 (by omega) hK (by omega) (by decide) rfl ?_
        refine w_if_eqB (n := 71) (tgt := 75) O dX6_count_68 (by decide) rfl (fun c_3 => ?_) (fun c_3 => ?_)
        · skip
          refine w_iconst (n := 76) O dX6_count_75 (v := (nI 0)) (by decide) rfl ?_
          refine w_iaddN (n := 77) O dX6_count_76 rfl ?_
          refine w_iret O dX6_count_77 ?_
          have e0 : a_count T kp ln sn sh (nI 1) = (nI ((0 + 0))) := by unfold a_count; rw [if_neg (by decide), if_pos rfl, c_2, c_3]; rfl
          rw [e0] at hQ
          try dsimp only at hQ
          exact hQ _ ⟨hB, ⟨hT.1, hT.2.1, hT.2.2.1, hT.2.2.2⟩, hok, hU, hMx, ⟨_, _, _, _, ⟨hP.1, hP.2⟩, hPb⟩, hS, ⟨_, _, _, _, _, _, _, _, _, _, _, _, ⟨hG.1, hG.2.1, hG.2.2.1, hG.2.2.2.1, hG.2.2.2.2.1, hG.2.2.2.2.2.1, hG.2.2.2.2.2.2.1, hG.2.2.2.2.2.2.2.1, hG.2.2.2.2.2.2.2.2.1, hG.2.2.2.2.2.2.2.2.2.1, hG.2.2.2.2.2.2.2.2.2.2⟩⟩, hI, hK, hH⟩ sm.rf
        · skip
          refine w_iconst (n := 72) O dX6_count_71 (v := (nI 1)) (by decide) rfl ?_
          refine w_goto (tgt := 76) O dX6_count_72 (by decide) ?_
          refine w_iaddN (n := 77) O dX6_count_76 rfl ?_
          refine w_iret O dX6_count_77 ?_
          have e0 : a_count T kp ln sn sh (nI 1) = (nI ((0 + 1))) := by unfold a_count; rw [if_neg (by decide), if_pos rfl, c_2, c_3]; rfl
          rw [e0] at hQ
          try dsimp only at hQ
          exact hQ _ ⟨hB, ⟨hT.1, hT.2.1, hT.2.2.1, hT.2.2.2⟩, hok, hU, hMx, ⟨_, _, _, _, ⟨hP.1, hP.2⟩, hPb⟩, hS, ⟨_, _, _, _, _, _, _, _, _, _, _, _, ⟨hG.1, hG.2.1, hG.2.2.1, hG.2.2.2.1, hG.2.2.2.2.1, hG.2.2.2.2.2.1, hG.2.2.2.2.2.2.1, hG.2.2.2.2.2.2.2.1, hG.2.2.2.2.2.2.2.2.1, hG.2.2.2.2.2.2.2.2.2.1, hG.2.2.2.2.2.2.2.2.2.2⟩⟩, hI, hK, hH⟩ sm.rf
      · skip
        refine w_iconst (n := 58) O dX6_count_57 (v := (nI 1)) (by decide) rfl ?_
        refine w_goto (tgt := 62) O dX6_count_58 (by decide) ?_
        refine w_aload_n (n := 63) O dX6_count_62 rfl rfl rfl ?_
        refine w_getf (n := 66) O 7 dX6_count_63 (by omega) hB rfl (by decide) uX6 uf_X6_51 rfl rfl ?_
        refine w_iconst (n := 67) O dX6_count_66 (v := (nI 1)) (by decide) rfl ?_
        refine w_zaldB (n := 68) O dX6_count_67 hW.2.1 (by omega) hK (by omega) (by decide) rfl ?_
        refine w_if_eqB (n := 71) (tgt := 75) O dX6_count_68 (by decide) rfl (fun c_4 => ?_) (fun c_4 => ?_)
        · skip
          refine w_iconst (n := 76) O dX6_count_75 (v := (nI 0)) (by decide) rfl ?_
          refine w_iaddN (n := 77) O dX6_count_76 rfl ?_
          refine w_iret O dX6_count_77 ?_
          have e0 : a_count T kp ln sn sh (nI 1) = (nI ((1 + 0))) := by unfold a_count; rw [if_neg (by decide), if_pos rfl, c_2, c_4]; rfl
          rw [e0] at hQ
          try dsimp only at hQ
          exact hQ _ ⟨hB, ⟨hT.1, hT.2.1, hT.2.2.1, hT.2.2.2⟩, hok, hU, hMx, ⟨_, _, _, _, ⟨hP.1, hP.2⟩, hPb⟩, hS, ⟨_, _, _, _, _, _, _, _, _, _, _, _, ⟨hG.1, hG.2.1, hG.2.2.1, hG.2.2.2.1, hG.2.2.2.2.1, hG.2.2.2.2.2.1, hG.2.2.2.2.2.2.1, hG.2.2.2.2.2.2.2.1, hG.2.2.2.2.2.2.2.2.1, hG.2.2.2.2.2.2.2.2.2.1, hG.2.2.2.2.2.2.2.2.2.2⟩⟩, hI, hK, hH⟩ sm.rf
        · skip
          refine w_iconst (n := 72) O dX6_count_71 (v := (nI 1)) (by decide) rfl ?_
          refine w_goto (tgt := 76) O dX6_count_72 (by decide) ?_
          refine w_iaddN (n := 77) O dX6_count_76 rfl ?_
          refine w_iret O dX6_count_77 ?_
          have e0 : a_count T kp ln sn sh (nI 1) = (nI ((1 + 1))) := by unfold a_count; rw [if_neg (by decide), if_pos rfl, c_2, c_4]; rfl
          rw [e0] at hQ
          try dsimp only at hQ
          exact hQ _ ⟨hB, ⟨hT.1, hT.2.1, hT.2.2.1, hT.2.2.2⟩, hok, hU, hMx, ⟨_, _, _, _, ⟨hP.1, hP.2⟩, hPb⟩, hS, ⟨_, _, _, _, _, _, _, _, _, _, _, _, ⟨hG.1, hG.2.1, hG.2.2.1, hG.2.2.2.1, hG.2.2.2.2.1, hG.2.2.2.2.2.1, hG.2.2.2.2.2.2.1, hG.2.2.2.2.2.2.2.1, hG.2.2.2.2.2.2.2.2.1, hG.2.2.2.2.2.2.2.2.2.1, hG.2.2.2.2.2.2.2.2.2.2⟩⟩, hI, hK, hH⟩ sm.rf
    · skip
      subst hxsw_1
      refine w_tableIn (tgt := 78) O dX6_count_1 (by decide) (by decide) rfl (by decide) ?_
      refine w_aload_n (n := 79) O dX6_count_78 rfl rfl rfl ?_
      refine w_getf (n := 82) O 3 dX6_count_79 (by omega) hB rfl (by decide) uX6 uf_X6_29 rfl rfl ?_
      refine w_getf (n := 85) O 1 dX6_count_82 (by omega) hP.1 rfl (by decide) uX4 uf_X6_70 rfl rfl ?_
      refine w_iret O dX6_count_85 ?_
      have e0 : a_count T kp ln sn sh (nI 2) = (nI (ln)) := by unfold a_count; rw [if_neg (by decide), if_neg (by decide), if_pos rfl]
      rw [e0] at hQ
      try dsimp only at hQ
      exact hQ _ ⟨hB, ⟨hT.1, hT.2.1, hT.2.2.1, hT.2.2.2⟩, hok, hU, hMx, ⟨_, _, _, _, ⟨hP.1, hP.2⟩, hPb⟩, hS, ⟨_, _, _, _, _, _, _, _, _, _, _, _, ⟨hG.1, hG.2.1, hG.2.2.1, hG.2.2.2.1, hG.2.2.2.2.1, hG.2.2.2.2.2.1, hG.2.2.2.2.2.2.1, hG.2.2.2.2.2.2.2.1, hG.2.2.2.2.2.2.2.2.1, hG.2.2.2.2.2.2.2.2.2.1, hG.2.2.2.2.2.2.2.2.2.2⟩⟩, hI, hK, hH⟩ sm.rf
    · skip
      subst hxsw_1
      refine w_tableIn (tgt := 86) O dX6_count_1 (by decide) (by decide) rfl (by decide) ?_
      obtain ⟨pf, hpf, hSk⟩ := hH.2 0 (by omega)
      have hla2 : laI (sh 0) ≤ 2 := by cases e : sh 0 with | none => exact Nat.zero_le _ | some q => exact (hok.2.2.2.2.2.2.2.2.1 0 (by omega) q e).1
      refine w_aload_n (n := 87) O dX6_count_86 rfl rfl rfl ?_
      refine w_getf (n := 90) O 8 dX6_count_87 (by omega) hB rfl (by decide) uX6 uf_X6_58 rfl rfl ?_
      refine w_iconst (n := 91) O dX6_count_90 (v := (nI 0)) (by decide) rfl ?_
      refine w_aald (n := 92) (b := gb_ad G (41)) O dX6_count_91 (by omega) hH.1 hW.2.1.2.2.1 (vp_in_nI (by omega) (by decide)) (by rw [nI_clamp (by omega)]) rfl ?_
      refine w_getf (n := 95) O 1 dX6_count_92 (by omega) hSk.1 rfl (by decide) uX3 uf_X6_265 rfl rfl ?_
      refine w_iconst (n := 96) O dX6_count_95 (v := (-1)) (by decide) rfl ?_
      refine w_icmp_ne (n := 99) (tgt := 104) O dX6_count_96 (by decide) rfl (fun c_5 => ?_) (fun c_5 => ?_)
      · skip
        refine w_aload_n (n := 105) O dX6_count_104 rfl rfl rfl ?_
        refine w_getf (n := 108) O 8 dX6_count_105 (by omega) hB rfl (by decide) uX6 uf_X6_58 rfl rfl ?_
        refine w_iconst (n := 109) O dX6_count_108 (v := (nI 0)) (by decide) rfl ?_
        refine w_aald (n := 110) (b := gb_ad G (41)) O dX6_count_109 (by omega) hH.1 hW.2.1.2.2.1 (vp_in_nI (by omega) (by decide)) (by rw [nI_clamp (by omega)]) rfl ?_
        refine w_getf (n := 113) O 1 dX6_count_110 (by omega) hSk.1 rfl (by decide) uX3 uf_X6_265 rfl rfl ?_
        refine w_iret O dX6_count_113 ?_
        have e0 : a_count T kp ln sn sh (nI 3) = (szI (sh 0)) := by unfold a_count; rw [if_neg (by decide), if_neg (by decide), if_neg (by decide), if_pos rfl, if_neg c_5]
        rw [e0] at hQ
        try dsimp only at hQ
        exact hQ _ ⟨hB, ⟨hT.1, hT.2.1, hT.2.2.1, hT.2.2.2⟩, hok, hU, hMx, ⟨_, _, _, _, ⟨hP.1, hP.2⟩, hPb⟩, hS, ⟨_, _, _, _, _, _, _, _, _, _, _, _, ⟨hG.1, hG.2.1, hG.2.2.1, hG.2.2.2.1, hG.2.2.2.2.1, hG.2.2.2.2.2.1, hG.2.2.2.2.2.2.1, hG.2.2.2.2.2.2.2.1, hG.2.2.2.2.2.2.2.2.1, hG.2.2.2.2.2.2.2.2.2.1, hG.2.2.2.2.2.2.2.2.2.2⟩⟩, hI, hK, hH⟩ sm.rf
      · skip
        refine w_bipush (n := 101) O dX6_count_99 (v := (-4)) (by decide) rfl ?_
        refine w_goto (tgt := 113) O dX6_count_101 (by decide) ?_
        refine w_iret O dX6_count_113 ?_
        have e0 : a_count T kp ln sn sh (nI 3) = (-4) := by unfold a_count; rw [if_neg (by decide), if_neg (by decide), if_neg (by decide), if_pos rfl, if_pos c_5]
        rw [e0] at hQ
        try dsimp only at hQ
        exact hQ _ ⟨hB, ⟨hT.1, hT.2.1, hT.2.2.1, hT.2.2.2⟩, hok, hU, hMx, ⟨_, _, _, _, ⟨hP.1, hP.2⟩, hPb⟩, hS, ⟨_, _, _, _, _, _, _, _, _, _, _, _, ⟨hG.1, hG.2.1, hG.2.2.1, hG.2.2.2.1, hG.2.2.2.2.1, hG.2.2.2.2.2.1, hG.2.2.2.2.2.2.1, hG.2.2.2.2.2.2.2.1, hG.2.2.2.2.2.2.2.2.1, hG.2.2.2.2.2.2.2.2.2.1, hG.2.2.2.2.2.2.2.2.2.2⟩⟩, hI, hK, hH⟩ sm.rf
    · skip
      subst hxsw_1
      refine w_tableIn (tgt := 114) O dX6_count_1 (by decide) (by decide) rfl (by decide) ?_
      refine w_aload_n (n := 115) O dX6_count_114 rfl rfl rfl ?_
      refine w_getf (n := 118) O 0 dX6_count_115 (by omega) hB rfl (by decide) uX6 uf_X6_10 rfl rfl ?_
      refine w_cV (n := 121) (ro := some (.int (nI (sSum (tGives T) T.2.2.2.1)))) (R := fun mM' => mM = mM') (st := []) (st1 := [.int (nI (sSum (tGives T) T.2.2.2.1))]) (As := []) (b := 1) O dX6_count_118 ul_X6_268 um_X5_allGiven (f_X5_allGiven (T := T) hW ⟨hT.1, hT.2.1, hT.2.2.1, hT.2.2.2⟩ (by omega) ok ⟨rfl, rfl⟩) rfl (by omega) hT.1 rfl rfl rfl rfl (by decide) (Nat.le_of_ble_eq_true rfl) rfl (fun mhM_6 hM_6 => ?_)
      subst hM_6
      refine w_iret O dX6_count_121 ?_
      have e0 : a_count T kp ln sn sh (nI 4) = (nI (sSum (tGives T) T.2.2.2.1)) := by unfold a_count; rw [if_neg (by decide), if_neg (by decide), if_neg (by decide), if_neg (by decide), if_pos rfl]
      rw [e0] at hQ
      try dsimp only at hQ
      exact hQ _ ⟨hB, ⟨hT.1, hT.2.1, hT.2.2.1, hT.2.2.2⟩, hok, hU, hMx, ⟨_, _, _, _, ⟨hP.1, hP.2⟩, hPb⟩, hS, ⟨_, _, _, _, _, _, _, _, _, _, _, _, ⟨hG.1, hG.2.1, hG.2.2.1, hG.2.2.2.1, hG.2.2.2.2.1, hG.2.2.2.2.2.1, hG.2.2.2.2.2.2.1, hG.2.2.2.2.2.2.2.1, hG.2.2.2.2.2.2.2.2.1, hG.2.2.2.2.2.2.2.2.2.1, hG.2.2.2.2.2.2.2.2.2.2⟩⟩, hI, hK, hH⟩ sm.rf
    · skip
      subst hxsw_1
      refine w_tableIn (tgt := 122) O dX6_count_1 (by decide) (by decide) rfl (by decide) ?_
      refine w_aload_n (n := 123) O dX6_count_122 rfl rfl rfl ?_
      refine w_getf (n := 126) O 0 dX6_count_123 (by omega) hB rfl (by decide) uX6 uf_X6_10 rfl rfl ?_
      refine w_iconst (n := 127) O dX6_count_126 (v := (nI 1)) (by decide) rfl ?_
      refine w_cV (n := 130) (ro := some (.int (nI (sSum (fun g => T.1 (g * 6 + 1)) T.2.2.2.1)))) (R := fun mM' => mM = mM') (st := []) (st1 := [.int (nI (sSum (fun g => T.1 (g * 6 + 1)) T.2.2.2.1))]) (As := [.int (nI 1)]) (b := 1) O dX6_count_127 ul_X6_178 um_X5_sum (f_X5_sum (T := T) hW ⟨hT.1, hT.2.1, hT.2.2.1, hT.2.2.2⟩ (by omega) ok (by omega) ⟨rfl, rfl⟩) rfl (by omega) hT.1 rfl rfl rfl rfl (by decide) (Nat.le_of_ble_eq_true rfl) rfl (fun mhM_7 hM_7 => ?_)
      subst hM_7
      refine w_iret O dX6_count_130 ?_
      have e0 : a_count T kp ln sn sh (nI 5) = (nI (sSum (fun g => T.1 (g * 6 + 1)) T.2.2.2.1)) := by unfold a_count; rw [if_neg (by decide), if_neg (by decide), if_neg (by decide), if_neg (by decide), if_neg (by decide), if_pos rfl]
      rw [e0] at hQ
      try dsimp only at hQ
      exact hQ _ ⟨hB, ⟨hT.1, hT.2.1, hT.2.2.1, hT.2.2.2⟩, hok, hU, hMx, ⟨_, _, _, _, ⟨hP.1, hP.2⟩, hPb⟩, hS, ⟨_, _, _, _, _, _, _, _, _, _, _, _, ⟨hG.1, hG.2.1, hG.2.2.1, hG.2.2.2.1, hG.2.2.2.2.1, hG.2.2.2.2.2.1, hG.2.2.2.2.2.2.1, hG.2.2.2.2.2.2.2.1, hG.2.2.2.2.2.2.2.2.1, hG.2.2.2.2.2.2.2.2.2.1, hG.2.2.2.2.2.2.2.2.2.2⟩⟩, hI, hK, hH⟩ sm.rf
  · skip
    refine w_tableOut (tgt := 131) O dX6_count_1 (by first | exact sw_1 | omega) (by decide) ?_
    refine w_iconst (n := 132) O dX6_count_131 (v := (-1)) (by decide) rfl ?_
    refine w_iret O dX6_count_132 ?_
    have e0 : a_count T kp ln sn sh x = (-1) := by unfold a_count; rw [if_neg (fun e => by rw [e] at sw_1; revert sw_1; decide), if_neg (fun e => by rw [e] at sw_1; revert sw_1; decide), if_neg (fun e => by rw [e] at sw_1; revert sw_1; decide), if_neg (fun e => by rw [e] at sw_1; revert sw_1; decide), if_neg (fun e => by rw [e] at sw_1; revert sw_1; decide), if_neg (fun e => by rw [e] at sw_1; revert sw_1; decide)]
    rw [e0] at hQ
    try dsimp only at hQ
    exact hQ _ ⟨hB, ⟨hT.1, hT.2.1, hT.2.2.1, hT.2.2.2⟩, hok, hU, hMx, ⟨_, _, _, _, ⟨hP.1, hP.2⟩, hPb⟩, hS, ⟨_, _, _, _, _, _, _, _, _, _, _, _, ⟨hG.1, hG.2.1, hG.2.2.1, hG.2.2.2.1, hG.2.2.2.2.1, hG.2.2.2.2.2.1, hG.2.2.2.2.2.2.1, hG.2.2.2.2.2.2.2.1, hG.2.2.2.2.2.2.2.2.1, hG.2.2.2.2.2.2.2.2.2.1, hG.2.2.2.2.2.2.2.2.2.2⟩⟩, hI, hK, hH⟩ sm.rf
