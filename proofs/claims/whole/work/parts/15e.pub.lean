set_option maxRecDepth 100000 in
set_option maxHeartbeats 4000000 in
theorem f_X6_see {G : gb_G} (hW : gW G) {Q : Option Value → gb_M → Prop} {mM : gb_M} {T : Tw} {im : Nat → Tw} {kp : Nat → Bool} {bs : Nat → Nat} {ln fa : Nat} {st sf : Nat → Nat} {sn : Nat} {sh : Sh} {sc : Nat → Nat → Int32} {tn : Nat} (hC : isCW G mM T im kp bs ln fa st sf sn sh sc tn) {i v : Int32}  (hQ : ∀ M', isCW G M' T im kp bs ln fa ((s_see st sf sn i v).1) ((s_see st sf sn i v).2.1) ((s_see st sf sn i v).2.2) sh sc tn → sm mM M' 0 48 → Q (some (.int (a_see sn i v))) M') : Fn G 1 yX6_see cX6_see 3 (some .int) [.ref (gb_ad G 0), .int (i), .int (v)] mM Q := by
  obtain ⟨hB, hT, hok, hU, hMx, hP, hS, hG, hI, hK, hH⟩ := hC
  have ok := hok.1
  have hn4 := ok.1
  have hst9 := hok.2.1
  have hln := hok.2.2.2.1
  have hsn6 := hok.2.2.2.2.2.2.1
  obtain ⟨ft, ln2, lo, hi, le, gi, mo, gu, ts, am2, gv, tl, hG⟩ := hG
  have hN := hW.2.2.1
  refine Fn.of hW.1 [(0, .ref (gb_ad G 0)), (1, .int (i)), (2, .int (v))] (by decide) (Nat.le_of_ble_eq_true rfl) rfl ?_
  intro X O
  refine w_iload_n (n := 1) O dX6_see_0 rfl rfl rfl ?_
  refine w_iconst (n := 2) O dX6_see_1 (v := (nI 0)) (by decide) rfl ?_
  refine w_bipush (n := 4) O dX6_see_2 (v := (nI 8)) (by decide) rfl ?_
  refine w_cS (n := 7) (ro := some (.int (bI (wIn (i) (nI (0)) (nI (8)))))) (R := fun mM' => mM = mM') (st := []) (st1 := [.int (bI (wIn (i) (nI (0)) (nI (8))))]) (As := [.int (i), .int (nI 0), .int (nI 8)]) O dX6_see_4 ul_X6_66 um_X6_within (f_X6_within hW ⟨rfl, rfl⟩) rfl rfl rfl (by decide) (Nat.le_of_ble_eq_true rfl) rfl (fun mhM_1 hM_1 => ?_)
  subst hM_1
  refine w_if_eqB (n := 10) (tgt := 20) O dX6_see_7 (by decide) rfl (fun c_2 => ?_) (fun c_2 => ?_)
  · skip
    refine w_iconst (n := 21) O dX6_see_20 (v := (-1)) (by decide) rfl ?_
    refine w_iret O dX6_see_21 ?_
    have e0 : a_see sn i v = -1 := by unfold a_see; rw [if_neg (by rw [show seeOk i v = false from by simp [seeOk, c_2]]; decide)]
    have e1 : s_see st sf sn i v = (st, sf, sn) := by unfold s_see; rw [if_neg (fun q => by rw [show seeOk i v = false from by simp [seeOk, c_2]] at q; exact absurd q.1 (by decide))]
    rw [e0, e1] at hQ
    try dsimp only at hQ
    exact hQ _ ⟨hB, ⟨hT.1, hT.2.1, hT.2.2.1, hT.2.2.2⟩, hok, hU, hMx, hP, hS, ⟨_, _, _, _, _, _, _, _, _, _, _, _, ⟨hG.1, hG.2.1, hG.2.2.1, hG.2.2.2.1, hG.2.2.2.2.1, hG.2.2.2.2.2.1, hG.2.2.2.2.2.2.1, hG.2.2.2.2.2.2.2.1, hG.2.2.2.2.2.2.2.2.1, hG.2.2.2.2.2.2.2.2.2.1, hG.2.2.2.2.2.2.2.2.2.2⟩⟩, hI, hK, hH⟩ sm.rf
  · skip
    have hr_j := c_2
    obtain ⟨j, ja, jb, rfl⟩ := wIn_t (by omega) c_2 (by omega)
    have cl_j : (nI j).toNatClampNeg = j := nI_clamp (by omega)
    refine w_iload_n (n := 11) O dX6_see_10 rfl rfl rfl ?_
    refine w_iconst (n := 12) O dX6_see_11 (v := (nI 0)) (by decide) rfl ?_
    refine w_bipush (n := 14) O dX6_see_12 (v := (nI 9)) (by decide) rfl ?_
    refine w_cS (n := 17) (ro := some (.int (bI (wIn (v) (nI (0)) (nI (9)))))) (R := fun mM' => mM = mM') (st := []) (st1 := [.int (bI (wIn (v) (nI (0)) (nI (9))))]) (As := [.int (v), .int (nI 0), .int (nI 9)]) O dX6_see_14 ul_X6_66 um_X6_within (f_X6_within hW ⟨rfl, rfl⟩) rfl rfl rfl (by decide) (Nat.le_of_ble_eq_true rfl) rfl (fun mhM_3 hM_3 => ?_)
    subst hM_3
    refine w_if_neB (n := 20) (tgt := 22) O dX6_see_17 (by decide) rfl (fun c_4 => ?_) (fun c_4 => ?_)
    · skip
      have hr_q := c_4
      obtain ⟨q, qa, qb, rfl⟩ := wIn_t (by omega) c_4 (by omega)
      have cl_q : (nI q).toNatClampNeg = q := nI_clamp (by omega)
      refine w_aload_n (n := 23) O dX6_see_22 rfl rfl rfl ?_
      refine w_getf (n := 26) O 5 dX6_see_23 (by omega) hB rfl (by decide) uX6 uf_X6_43 rfl rfl ?_
      refine w_getf (n := 29) O 2 dX6_see_26 (by omega) hG.1 rfl (by decide) uX0 uf_X6_91 rfl rfl ?_
      refine w_bipush (n := 31) O dX6_see_29 (v := (nI 6)) (by decide) rfl ?_
      refine w_icmp_ltN (n := 34) (tgt := 37) O dX6_see_31 (by omega) (by omega) (by decide) rfl (fun c_5 => ?_) (fun c_5 => ?_)
      · skip
        refine w_aload_n (n := 38) O dX6_see_37 rfl rfl rfl ?_
        refine w_getf (n := 41) O 5 dX6_see_38 (by omega) hB rfl (by decide) uX6 uf_X6_43 rfl rfl ?_
        refine w_getf (n := 44) O 0 dX6_see_41 (by omega) hG.1 rfl (by decide) uX0 uf_X6_203 rfl rfl ?_
        refine w_aload_n (n := 45) O dX6_see_44 rfl rfl rfl ?_
        refine w_getf (n := 48) O 5 dX6_see_45 (by omega) hB rfl (by decide) uX6 uf_X6_43 rfl rfl ?_
        refine w_getf (n := 51) O 2 dX6_see_48 (by omega) hG.1 rfl (by decide) uX0 uf_X6_91 rfl rfl ?_
        refine w_iload_n (n := 52) O dX6_see_51 rfl rfl rfl ?_
        refine w_iastN (n := 53) O dX6_see_52 hW.2.1 (by omega) hG.2.1 (by omega) (by decide) rfl ?_
        refine w_aload_n (n := 54) O dX6_see_53 rfl rfl rfl ?_
        refine w_getf (n := 57) O 5 dX6_see_54 (by omega) ((va_up_ne _ _ (by decide)).trans hB) rfl (by decide) uX6 uf_X6_43 rfl rfl ?_
        refine w_getf (n := 60) O 1 dX6_see_57 (by omega) ((va_up_ne _ _ (by decide)).trans hG.1) rfl (by decide) uX0 uf_X6_206 rfl rfl ?_
        refine w_aload_n (n := 61) O dX6_see_60 rfl rfl rfl ?_
        refine w_getf (n := 64) O 5 dX6_see_61 (by omega) ((va_up_ne _ _ (by decide)).trans hB) rfl (by decide) uX6 uf_X6_43 rfl rfl ?_
        refine w_getf (n := 67) O 2 dX6_see_64 (by omega) ((va_up_ne _ _ (by decide)).trans hG.1) rfl (by decide) uX0 uf_X6_91 rfl rfl ?_
        refine w_iload_n (n := 68) O dX6_see_67 rfl rfl rfl ?_
        refine w_iastN (n := 69) O dX6_see_68 hW.2.1 (by omega) ((va_up_ne _ _ (by decide)).trans hG.2.2.1) (by omega) (by decide) rfl ?_
        refine w_aload_n (n := 70) O dX6_see_69 rfl rfl rfl ?_
        refine w_getf (n := 73) O 5 dX6_see_70 (by omega) ((va_up_ne _ _ (by decide)).trans ((va_up_ne _ _ (by decide)).trans hB)) rfl (by decide) uX6 uf_X6_43 rfl rfl ?_
        refine w_dup (n := 74) O dX6_see_73 rfl rfl ?_
        refine w_getf (n := 77) O 2 dX6_see_74 (by omega) ((va_up_ne _ _ (by decide)).trans ((va_up_ne _ _ (by decide)).trans hG.1)) rfl (by decide) uX0 uf_X6_91 rfl rfl ?_
        refine w_iconst (n := 78) O dX6_see_77 (v := (nI 1)) (by decide) rfl ?_
        refine w_iaddN (n := 79) O dX6_see_78 rfl ?_
        refine w_putf (n := 82) (fs' := [.ref (gb_ad G 20), .ref (gb_ad G 21), .int (nI ((sn + 1))), .int (nI (ft)), .int (oI ln2), .ref (gb_ad G 22), .ref (gb_ad G 23), .ref (gb_ad G 24), .ref (gb_ad G 25), .ref (gb_ad G 26), .ref (gb_ad G 27), .ref (gb_ad G 28), .ref (gb_ad G 29), .int (nI (gv)), .int (bI (tl))]) O 2 dX6_see_79 (by omega) ((va_up_ne _ _ (by decide)).trans ((va_up_ne _ _ (by decide)).trans hG.1)) rfl (by decide) uX0 uf_X6_91 tyX0 tyX0_ok nmX0 rfl rfl rfl (Nat.le_of_ble_eq_true rfl) rfl rfl ?_
        refine w_aload_n (n := 83) O dX6_see_82 rfl rfl rfl ?_
        refine w_getf (n := 86) O 5 dX6_see_83 (by omega) ((va_up_ne _ _ (by decide)).trans ((va_up_ne _ _ (by decide)).trans ((va_up_ne _ _ (by decide)).trans hB))) rfl (by decide) uX6 uf_X6_43 rfl rfl ?_
        refine w_getf (n := 89) O 2 dX6_see_86 (by omega) (va_up_self _ _ _) rfl (by decide) uX0 uf_X6_91 rfl rfl ?_
        refine w_iret O dX6_see_89 ?_
        have e0 : a_see sn (nI j) (nI q) = (nI ((sn + 1))) := by unfold a_see; rw [if_pos (by unfold seeOk; rw [hr_j, hr_q]; rfl), if_neg (by omega)]
        have e1 : s_see st sf sn (nI j) (nI q) = (upN st sn j, upN sf sn q, sn + 1) := by unfold s_see; rw [if_pos ⟨by unfold seeOk; rw [hr_j, hr_q]; rfl, by omega⟩, cl_j, cl_q]
        rw [e0, e1] at hQ
        try dsimp only at hQ
        exact hQ _ ⟨((va_up_ne _ _ (by decide)).trans ((va_up_ne _ _ (by decide)).trans ((va_up_ne _ _ (by decide)).trans hB))), ⟨((va_up_ne _ _ (by decide)).trans ((va_up_ne _ _ (by decide)).trans ((va_up_ne _ _ (by decide)).trans hT.1))), ((va_up_ne _ _ (by decide)).trans ((va_up_ne _ _ (by decide)).trans ((va_up_ne _ _ (by decide)).trans hT.2.1))), ((va_up_ne _ _ (by decide)).trans ((va_up_ne _ _ (by decide)).trans ((va_up_ne _ _ (by decide)).trans hT.2.2.1))), ((va_up_ne _ _ (by decide)).trans ((va_up_ne _ _ (by decide)).trans ((va_up_ne _ _ (by decide)).trans hT.2.2.2)))⟩, ⟨hok.1, hok.2.1, hok.2.2.1, hok.2.2.2.1, hok.2.2.2.2.1, hok.2.2.2.2.2.1, by omega, fun k hk => by show upN st sn j k ≤ 8 ∧ upN sf sn q k ≤ 9; by_cases e : k = sn; (rw [e, upN_self, upN_self]; omega); (rw [upN_ne _ _ e, upN_ne _ _ e]; exact hok.2.2.2.2.2.2.2.1 k (by omega)), hok.2.2.2.2.2.2.2.2⟩, (((hU.kp (kp_up (by omega))).kp (kp_up (by omega))).kp (kp_up (by omega))), (((hMx.kp (kp_up (by omega))).kp (kp_up (by omega))).kp (kp_up (by omega))), (((hP.kp (kp_up (by omega))).kp (kp_up (by omega))).kp (kp_up (by omega))), (((hS.kp (kp_up (by omega))).kp (kp_up (by omega))).kp (kp_up (by omega))), ⟨_, _, _, _, _, _, _, _, _, _, _, _, ⟨(va_up_self _ _ _), ((va_up_ne _ _ (by decide)).trans ((va_up_ne _ _ (by decide)).trans (va_up_self _ _ _))), ((va_up_ne _ _ (by decide)).trans (va_up_self _ _ _)), ((va_up_ne _ _ (by decide)).trans ((va_up_ne _ _ (by decide)).trans ((va_up_ne _ _ (by decide)).trans hG.2.2.2.1))), ((va_up_ne _ _ (by decide)).trans ((va_up_ne _ _ (by decide)).trans ((va_up_ne _ _ (by decide)).trans hG.2.2.2.2.1))), ((va_up_ne _ _ (by decide)).trans ((va_up_ne _ _ (by decide)).trans ((va_up_ne _ _ (by decide)).trans hG.2.2.2.2.2.1))), ((va_up_ne _ _ (by decide)).trans ((va_up_ne _ _ (by decide)).trans ((va_up_ne _ _ (by decide)).trans hG.2.2.2.2.2.2.1))), ((va_up_ne _ _ (by decide)).trans ((va_up_ne _ _ (by decide)).trans ((va_up_ne _ _ (by decide)).trans hG.2.2.2.2.2.2.2.1))), ((va_up_ne _ _ (by decide)).trans ((va_up_ne _ _ (by decide)).trans ((va_up_ne _ _ (by decide)).trans hG.2.2.2.2.2.2.2.2.1))), ((va_up_ne _ _ (by decide)).trans ((va_up_ne _ _ (by decide)).trans ((va_up_ne _ _ (by decide)).trans hG.2.2.2.2.2.2.2.2.2.1))), ((va_up_ne _ _ (by decide)).trans ((va_up_ne _ _ (by decide)).trans ((va_up_ne _ _ (by decide)).trans hG.2.2.2.2.2.2.2.2.2.2)))⟩⟩, (((hI.kp (kp_up (by omega))).kp (kp_up (by omega))).kp (kp_up (by omega))), ((va_up_ne _ _ (by decide)).trans ((va_up_ne _ _ (by decide)).trans ((va_up_ne _ _ (by decide)).trans hK))), (((hH.kp (kp_up (by omega))).kp (kp_up (by omega))).kp (kp_up (by omega)))⟩ (((sm.rf.up (by omega) (by omega)).up (by omega) (by omega)).up (by omega) (by omega))
      · skip
        refine w_bipush (n := 36) O dX6_see_34 (v := (-3)) (by decide) rfl ?_
        refine w_iret O dX6_see_36 ?_
        have e0 : a_see sn (nI j) (nI q) = -3 := by unfold a_see; rw [if_pos (by unfold seeOk; rw [hr_j, hr_q]; rfl), if_pos (by omega)]
        have e1 : s_see st sf sn (nI j) (nI q) = (st, sf, sn) := by unfold s_see; rw [if_neg (fun q => by omega)]
        rw [e0, e1] at hQ
        try dsimp only at hQ
        exact hQ _ ⟨hB, ⟨hT.1, hT.2.1, hT.2.2.1, hT.2.2.2⟩, hok, hU, hMx, hP, hS, ⟨_, _, _, _, _, _, _, _, _, _, _, _, ⟨hG.1, hG.2.1, hG.2.2.1, hG.2.2.2.1, hG.2.2.2.2.1, hG.2.2.2.2.2.1, hG.2.2.2.2.2.2.1, hG.2.2.2.2.2.2.2.1, hG.2.2.2.2.2.2.2.2.1, hG.2.2.2.2.2.2.2.2.2.1, hG.2.2.2.2.2.2.2.2.2.2⟩⟩, hI, hK, hH⟩ sm.rf
    · skip
      refine w_iconst (n := 21) O dX6_see_20 (v := (-1)) (by decide) rfl ?_
      refine w_iret O dX6_see_21 ?_
      have e0 : a_see sn (nI j) v = -1 := by unfold a_see; rw [if_neg (by rw [show seeOk (nI j) v = false from by simp [seeOk, c_4]]; decide)]
      have e1 : s_see st sf sn (nI j) v = (st, sf, sn) := by unfold s_see; rw [if_neg (fun q => by rw [show seeOk (nI j) v = false from by simp [seeOk, c_4]] at q; exact absurd q.1 (by decide))]
      rw [e0, e1] at hQ
      try dsimp only at hQ
      exact hQ _ ⟨hB, ⟨hT.1, hT.2.1, hT.2.2.1, hT.2.2.2⟩, hok, hU, hMx, hP, hS, ⟨_, _, _, _, _, _, _, _, _, _, _, _, ⟨hG.1, hG.2.1, hG.2.2.1, hG.2.2.2.1, hG.2.2.2.2.1, hG.2.2.2.2.2.1, hG.2.2.2.2.2.2.1, hG.2.2.2.2.2.2.2.1, hG.2.2.2.2.2.2.2.2.1, hG.2.2.2.2.2.2.2.2.2.1, hG.2.2.2.2.2.2.2.2.2.2⟩⟩, hI, hK, hH⟩ sm.rf
set_option maxRecDepth 100000 in
set_option maxHeartbeats 4000000 in
theorem f_X6_forget {G : gb_G} (hW : gW G) {Q : Option Value → gb_M → Prop} {mM : gb_M} {T : Tw} {im : Nat → Tw} {kp : Nat → Bool} {bs : Nat → Nat} {ln fa : Nat} {st sf : Nat → Nat} {sn : Nat} {sh : Sh} {sc : Nat → Nat → Int32} {tn : Nat} (hC : isCW G mM T im kp bs ln fa st sf sn sh sc tn) {c : Int32}  (hQ : ∀ M', isCW G M' T im kp bs ln fa st sf (s_end sn c) sh sc tn → sm mM M' 0 48 → Q (some (.int (a_end sn c))) M') : Fn G 1 yX6_forget cX6_forget 3 (some .int) [.ref (gb_ad G 0), .int (c)] mM Q := by
  obtain ⟨hB, hT, hok, hU, hMx, hP, hS, hG, hI, hK, hH⟩ := hC
  have ok := hok.1
  have hn4 := ok.1
  have hst9 := hok.2.1
  have hln := hok.2.2.2.1
  have hsn6 := hok.2.2.2.2.2.2.1
  obtain ⟨ft, ln2, lo, hi, le, gi, mo, gu, ts, am2, gv, tl, hG⟩ := hG
  have hN := hW.2.2.1
  refine Fn.of hW.1 [(0, .ref (gb_ad G 0)), (1, .int (c))] (by decide) (Nat.le_of_ble_eq_true rfl) rfl ?_
  intro X O
  refine w_iload_n (n := 1) O dX6_forget_0 rfl rfl rfl ?_
  refine w_iconst (n := 2) O dX6_forget_1 (v := (nI 0)) (by decide) rfl ?_
  refine w_aload_n (n := 3) O dX6_forget_2 rfl rfl rfl ?_
  refine w_getf (n := 6) O 5 dX6_forget_3 (by omega) hB rfl (by decide) uX6 uf_X6_43 rfl rfl ?_
  refine w_getf (n := 9) O 2 dX6_forget_6 (by omega) hG.1 rfl (by decide) uX0 uf_X6_91 rfl rfl ?_
  refine w_cS (n := 12) (ro := some (.int (bI (wIn (c) (nI (0)) (nI (sn)))))) (R := fun mM' => mM = mM') (st := []) (st1 := [.int (bI (wIn (c) (nI (0)) (nI (sn))))]) (As := [.int (c), .int (nI 0), .int (nI (sn))]) O dX6_forget_9 ul_X6_66 um_X6_within (f_X6_within hW ⟨rfl, rfl⟩) rfl rfl rfl (by decide) (Nat.le_of_ble_eq_true rfl) rfl (fun mhM_1 hM_1 => ?_)
  subst hM_1
  refine w_if_neB (n := 15) (tgt := 17) O dX6_forget_12 (by decide) rfl (fun c_2 => ?_) (fun c_2 => ?_)
  · skip
    have hr_j := c_2
    obtain ⟨j, ja, jb, rfl⟩ := wIn_t (by omega) c_2 (by omega)
    have cl_j : (nI j).toNatClampNeg = j := nI_clamp (by omega)
    refine w_aload_n (n := 18) O dX6_forget_17 rfl rfl rfl ?_
    refine w_getf (n := 21) O 5 dX6_forget_18 (by omega) hB rfl (by decide) uX6 uf_X6_43 rfl rfl ?_
    refine w_getf (n := 24) O 2 dX6_forget_21 (by omega) hG.1 rfl (by decide) uX0 uf_X6_91 rfl rfl ?_
    refine w_istore_n (n := 25) (lv' := [(2, .int (nI (sn))), (0, .ref (gb_ad G 0)), (1, .int (nI (j)))]) O dX6_forget_24 rfl (by decide) rfl rfl ?_
    refine w_aload_n (n := 26) O dX6_forget_25 rfl rfl rfl ?_
    refine w_getf (n := 29) O 5 dX6_forget_26 (by omega) hB rfl (by decide) uX6 uf_X6_43 rfl rfl ?_
    refine w_iload_n (n := 30) O dX6_forget_29 rfl rfl rfl ?_
    refine w_putf (n := 33) (fs' := [.ref (gb_ad G 20), .ref (gb_ad G 21), .int (nI (j)), .int (nI (ft)), .int (oI ln2), .ref (gb_ad G 22), .ref (gb_ad G 23), .ref (gb_ad G 24), .ref (gb_ad G 25), .ref (gb_ad G 26), .ref (gb_ad G 27), .ref (gb_ad G 28), .ref (gb_ad G 29), .int (nI (gv)), .int (bI (tl))]) O 2 dX6_forget_30 (by omega) hG.1 rfl (by decide) uX0 uf_X6_91 tyX0 tyX0_ok nmX0 rfl rfl rfl (Nat.le_of_ble_eq_true rfl) rfl rfl ?_
    refine w_iload_n (n := 34) O dX6_forget_33 rfl rfl rfl ?_
    refine w_iret O dX6_forget_34 ?_
    have e0 : a_end sn (nI j) = nI sn := by simp [a_end, hr_j]
    have e1 : s_end sn (nI j) = j := by simp [s_end, hr_j, cl_j]
    rw [e0, e1] at hQ
    try dsimp only at hQ
    exact hQ _ ⟨((va_up_ne _ _ (by decide)).trans hB), ⟨((va_up_ne _ _ (by decide)).trans hT.1), ((va_up_ne _ _ (by decide)).trans hT.2.1), ((va_up_ne _ _ (by decide)).trans hT.2.2.1), ((va_up_ne _ _ (by decide)).trans hT.2.2.2)⟩, ⟨hok.1, hok.2.1, hok.2.2.1, hok.2.2.2.1, hok.2.2.2.2.1, hok.2.2.2.2.2.1, by omega, fun k hk => hok.2.2.2.2.2.2.2.1 k (by omega), hok.2.2.2.2.2.2.2.2⟩, (hU.kp (kp_up (by omega))), (hMx.kp (kp_up (by omega))), (hP.kp (kp_up (by omega))), (hS.kp (kp_up (by omega))), ⟨_, _, _, _, _, _, _, _, _, _, _, _, ⟨(va_up_self _ _ _), ((va_up_ne _ _ (by decide)).trans hG.2.1), ((va_up_ne _ _ (by decide)).trans hG.2.2.1), ((va_up_ne _ _ (by decide)).trans hG.2.2.2.1), ((va_up_ne _ _ (by decide)).trans hG.2.2.2.2.1), ((va_up_ne _ _ (by decide)).trans hG.2.2.2.2.2.1), ((va_up_ne _ _ (by decide)).trans hG.2.2.2.2.2.2.1), ((va_up_ne _ _ (by decide)).trans hG.2.2.2.2.2.2.2.1), ((va_up_ne _ _ (by decide)).trans hG.2.2.2.2.2.2.2.2.1), ((va_up_ne _ _ (by decide)).trans hG.2.2.2.2.2.2.2.2.2.1), ((va_up_ne _ _ (by decide)).trans hG.2.2.2.2.2.2.2.2.2.2)⟩⟩, (hI.kp (kp_up (by omega))), ((va_up_ne _ _ (by decide)).trans hK), (hH.kp (kp_up (by omega)))⟩ (sm.rf.up (by omega) (by omega))
  · skip
    refine w_iconst (n := 16) O dX6_forget_15 (v := (-1)) (by decide) rfl ?_
    refine w_iret O dX6_forget_16 ?_
    have e0 : a_end sn c = -1 := by simp [a_end, c_2]
    have e1 : s_end sn c = sn := by simp [s_end, c_2]
    rw [e0, e1] at hQ
    try dsimp only at hQ
    exact hQ _ ⟨hB, ⟨hT.1, hT.2.1, hT.2.2.1, hT.2.2.2⟩, hok, hU, hMx, hP, hS, ⟨_, _, _, _, _, _, _, _, _, _, _, _, ⟨hG.1, hG.2.1, hG.2.2.1, hG.2.2.2.1, hG.2.2.2.2.1, hG.2.2.2.2.2.1, hG.2.2.2.2.2.2.1, hG.2.2.2.2.2.2.2.1, hG.2.2.2.2.2.2.2.2.1, hG.2.2.2.2.2.2.2.2.2.1, hG.2.2.2.2.2.2.2.2.2.2⟩⟩, hI, hK, hH⟩ sm.rf
set_option maxRecDepth 100000 in
set_option maxHeartbeats 4000000 in
theorem f_X6_fits {G : gb_G} (hW : gW G) {Q : Option Value → gb_M → Prop} {mM : gb_M} {T : Tw} {im : Nat → Tw} {kp : Nat → Bool} {bs : Nat → Nat} {ln fa : Nat} {st sf : Nat → Nat} {sn : Nat} {sh : Sh} {sc : Nat → Nat → Int32} {tn : Nat} (hC : isCW G mM T im kp bs ln fa st sf sn sh sc tn) {x : Int32}  (hQ : ∀ M', isCW G M' T im kp bs ln fa st sf sn sh sc tn → sm mM M' 0 48 → Q (some (.int (a_fits T st sf sn x))) M') : Fn G 10 yX6_fits cX6_fits 2 (some .int) [.ref (gb_ad G 0), .int (x)] mM Q := by
  obtain ⟨hB, hT, hok, hU, hMx, hP, hS, hG, hI, hK, hH⟩ := hC
  have ok := hok.1
  have hn4 := ok.1
  have hst9 := hok.2.1
  have hln := hok.2.2.2.1
  have hsn6 := hok.2.2.2.2.2.2.1
  obtain ⟨U, hU⟩ := hU
  obtain ⟨ft, ln2, lo, hi, le, gi, mo, gu, ts, am2, gv, tl, hG⟩ := hG
  have hN := hW.2.2.1
  refine Fn.of hW.1 [(0, .ref (gb_ad G 0)), (1, .int (x))] (by decide) (Nat.le_of_ble_eq_true rfl) rfl ?_
  intro X O
  refine w_iload_n (n := 1) O dX6_fits_0 rfl rfl rfl ?_
  refine w_iconst (n := 2) O dX6_fits_1 (v := (nI 0)) (by decide) rfl ?_
  refine w_iconst (n := 3) O dX6_fits_2 (v := (nI 1)) (by decide) rfl ?_
  refine w_cS (n := 6) (ro := some (.int (bI (wIn (x) (nI (0)) (nI (1)))))) (R := fun mM' => mM = mM') (st := []) (st1 := [.int (bI (wIn (x) (nI (0)) (nI (1))))]) (As := [.int (x), .int (nI 0), .int (nI 1)]) O dX6_fits_3 ul_X6_66 um_X6_within (f_X6_within hW ⟨rfl, rfl⟩) rfl rfl rfl (by decide) (Nat.le_of_ble_eq_true rfl) rfl (fun mhM_1 hM_1 => ?_)
  subst hM_1
  refine w_if_neB (n := 9) (tgt := 11) O dX6_fits_6 (by decide) rfl (fun c_2 => ?_) (fun c_2 => ?_)
  · skip
    have hr_j := c_2
    obtain ⟨j, ja, jb, rfl⟩ := wIn_t (by omega) c_2 (by omega)
    have cl_j : (nI j).toNatClampNeg = j := nI_clamp (by omega)
    refine w_aload_n (n := 12) O dX6_fits_11 rfl rfl rfl ?_
    refine w_getf (n := 15) O 5 dX6_fits_12 (by omega) hB rfl (by decide) uX6 uf_X6_43 rfl rfl ?_
    refine w_aload_n (n := 16) O dX6_fits_15 rfl rfl rfl ?_
    refine w_getf (n := 19) O 0 dX6_fits_16 (by omega) hB rfl (by decide) uX6 uf_X6_10 rfl rfl ?_
    refine w_aload_n (n := 20) O dX6_fits_19 rfl rfl rfl ?_
    refine w_getf (n := 23) O 1 dX6_fits_20 (by omega) hB rfl (by decide) uX6 uf_X6_16 rfl rfl ?_
    refine w_iconst (n := 24) O dX6_fits_23 (v := (nI 0)) (by decide) rfl ?_
    refine w_top (bI false) (by decide) ?_
    refine w_cV (n := 27) (ro := none) (R := fun mM' => ∃ ft' ln' lo' hi' le' gi' mo' gu' ts' am', isG G mM' st sf sn (ft') (ln') (lo') (hi') (le') (gi') (mo') (gu') (ts') (am') T.2.2.2.1 false ∧ gFold T (fitB T st sf sn) false (10 ^ T.2.2.2.1) ft' ln' lo' hi' le' ∧ cT G mM' 5 ∧ sm2 mM mM' 5 8 19 29) (st := []) (st1 := []) (As := [.ref (gb_ad G 1), .ref (gb_ad G 5), .int (bI (false))]) (b := 19) O dX6_fits_24 ul_X6_209 um_X0_search (f_X0_search (T := T) hW ⟨hG.1, hG.2.1, hG.2.2.1, hG.2.2.2.1, hG.2.2.2.2.1, hG.2.2.2.2.2.1, hG.2.2.2.2.2.2.1, hG.2.2.2.2.2.2.2.1, hG.2.2.2.2.2.2.2.2.1, hG.2.2.2.2.2.2.2.2.2.1, hG.2.2.2.2.2.2.2.2.2.2⟩ ⟨hT.1, hT.2.1, hT.2.2.1, hT.2.2.2⟩ ok ⟨hU.1, hU.2.1, hU.2.2.1, hU.2.2.2⟩ hok.2.2.2.2.2.2.2.1 hsn6 (t2 := false) (fun M' a b c d e f g h i j h1 h2 h3 h4 => ⟨rfl, a, b, c, d, e, f, g, h, i, j, h1, h2, h3, h4⟩)) rfl (by omega) hG.1 rfl rfl rfl rfl (by omega) (Nat.le_of_ble_eq_true rfl) rfl (fun mhM_3 hM_3 => ?_)
    obtain ⟨ft3, ln3, lo3, hi3, le3, gi3, mo3, gu3, ts3, am3, hG3, hf3, ⟨U3, hU3⟩, hshM_3⟩ := hM_3
    refine w_iload_n (n := 28) O dX6_fits_27 rfl rfl rfl ?_
    refine w_if_neN (n := 31) (tgt := 41) O dX6_fits_28 (by omega) (by decide) rfl (fun c_4 => ?_) (fun c_4 => ?_)
    · skip
      refine w_aload_n (n := 42) O dX6_fits_41 rfl rfl rfl ?_
      refine w_getf (n := 45) O 5 dX6_fits_42 (by omega) ((hshM_3 (0) (by omega) (by omega)).trans hB) rfl (by decide) uX6 uf_X6_43 rfl rfl ?_
      refine w_getf (n := 48) O 4 dX6_fits_45 (by omega) hG3.1 rfl (by decide) uX0 uf_X6_216 rfl rfl ?_
      refine w_iret O dX6_fits_48 ?_
      have e0 : a_fits T st sf sn (nI j) = (oI ln3) := by unfold a_fits; rw [if_pos hr_j, if_neg (fun e => c_4 ((nI_eq (by omega) (by omega)).mp e)), show allG T = 10 ^ T.2.2.2.1 from rfl, ← hf3.2.1]
      rw [e0] at hQ
      try dsimp only at hQ
      exact hQ _ ⟨((hshM_3 (0) (by omega) (by omega)).trans hB), ⟨((hshM_3 (1) (by omega) (by omega)).trans hT.1), ((hshM_3 (2) (by omega) (by omega)).trans hT.2.1), ((hshM_3 (3) (by omega) (by omega)).trans hT.2.2.1), ((hshM_3 (4) (by omega) (by omega)).trans hT.2.2.2)⟩, hok, ⟨U3, ⟨hU3.1, hU3.2.1, hU3.2.2.1, hU3.2.2.2⟩⟩, (hMx.kp (kp_sm2 hshM_3 (by omega) (by omega))), (hP.kp (kp_sm2 hshM_3 (by omega) (by omega))), (hS.kp (kp_sm2 hshM_3 (by omega) (by omega))), ⟨_, _, _, _, _, _, _, _, _, _, _, _, ⟨hG3.1, hG3.2.1, hG3.2.2.1, hG3.2.2.2.1, hG3.2.2.2.2.1, hG3.2.2.2.2.2.1, hG3.2.2.2.2.2.2.1, hG3.2.2.2.2.2.2.2.1, hG3.2.2.2.2.2.2.2.2.1, hG3.2.2.2.2.2.2.2.2.2.1, hG3.2.2.2.2.2.2.2.2.2.2⟩⟩, (hI.kp (kp_sm2 hshM_3 (by omega) (by omega))), ((hshM_3 (39) (by omega) (by omega)).trans hK), (hH.kp (kp_sm2 hshM_3 (by omega) (by omega)))⟩ (sm.rf.tr (hshM_3.one (by omega)))
    · skip
      refine w_aload_n (n := 32) O dX6_fits_31 rfl rfl rfl ?_
      refine w_getf (n := 35) O 5 dX6_fits_32 (by omega) ((hshM_3 (0) (by omega) (by omega)).trans hB) rfl (by decide) uX6 uf_X6_43 rfl rfl ?_
      refine w_getf (n := 38) O 3 dX6_fits_35 (by omega) hG3.1 rfl (by decide) uX0 uf_X6_213 rfl rfl ?_
      refine w_goto (tgt := 48) O dX6_fits_38 (by decide) ?_
      refine w_iret O dX6_fits_48 ?_
      have e0 : a_fits T st sf sn (nI j) = (nI (ft3)) := by unfold a_fits; rw [if_pos hr_j, if_pos (by rw [c_4]), show allG T = 10 ^ T.2.2.2.1 from rfl, ← hf3.1]
      rw [e0] at hQ
      try dsimp only at hQ
      exact hQ _ ⟨((hshM_3 (0) (by omega) (by omega)).trans hB), ⟨((hshM_3 (1) (by omega) (by omega)).trans hT.1), ((hshM_3 (2) (by omega) (by omega)).trans hT.2.1), ((hshM_3 (3) (by omega) (by omega)).trans hT.2.2.1), ((hshM_3 (4) (by omega) (by omega)).trans hT.2.2.2)⟩, hok, ⟨U3, ⟨hU3.1, hU3.2.1, hU3.2.2.1, hU3.2.2.2⟩⟩, (hMx.kp (kp_sm2 hshM_3 (by omega) (by omega))), (hP.kp (kp_sm2 hshM_3 (by omega) (by omega))), (hS.kp (kp_sm2 hshM_3 (by omega) (by omega))), ⟨_, _, _, _, _, _, _, _, _, _, _, _, ⟨hG3.1, hG3.2.1, hG3.2.2.1, hG3.2.2.2.1, hG3.2.2.2.2.1, hG3.2.2.2.2.2.1, hG3.2.2.2.2.2.2.1, hG3.2.2.2.2.2.2.2.1, hG3.2.2.2.2.2.2.2.2.1, hG3.2.2.2.2.2.2.2.2.2.1, hG3.2.2.2.2.2.2.2.2.2.2⟩⟩, (hI.kp (kp_sm2 hshM_3 (by omega) (by omega))), ((hshM_3 (39) (by omega) (by omega)).trans hK), (hH.kp (kp_sm2 hshM_3 (by omega) (by omega)))⟩ (sm.rf.tr (hshM_3.one (by omega)))
  · skip
    refine w_iconst (n := 10) O dX6_fits_9 (v := (-1)) (by decide) rfl ?_
    refine w_iret O dX6_fits_10 ?_
    have e0 : a_fits T st sf sn x = -1 := by unfold a_fits; rw [if_neg (by rw [c_2]; decide)]
    rw [e0] at hQ
    try dsimp only at hQ
    exact hQ _ ⟨hB, ⟨hT.1, hT.2.1, hT.2.2.1, hT.2.2.2⟩, hok, ⟨U, ⟨hU.1, hU.2.1, hU.2.2.1, hU.2.2.2⟩⟩, hMx, hP, hS, ⟨_, _, _, _, _, _, _, _, _, _, _, _, ⟨hG.1, hG.2.1, hG.2.2.1, hG.2.2.2.1, hG.2.2.2.2.1, hG.2.2.2.2.2.1, hG.2.2.2.2.2.2.1, hG.2.2.2.2.2.2.2.1, hG.2.2.2.2.2.2.2.2.1, hG.2.2.2.2.2.2.2.2.2.1, hG.2.2.2.2.2.2.2.2.2.2⟩⟩, hI, hK, hH⟩ sm.rf
set_option maxRecDepth 100000 in
set_option maxHeartbeats 4000000 in
theorem f_X6_range {G : gb_G} (hW : gW G) {Q : Option Value → gb_M → Prop} {mM : gb_M} {T : Tw} {im : Nat → Tw} {kp : Nat → Bool} {bs : Nat → Nat} {ln fa : Nat} {st sf : Nat → Nat} {sn : Nat} {sh : Sh} {sc : Nat → Nat → Int32} {tn : Nat} (hC : isCW G mM T im kp bs ln fa st sf sn sh sc tn) {g x : Int32}  (hQ : ∀ M', isCW G M' T im kp bs ln fa st sf sn sh sc tn → sm mM M' 0 48 → Q (some (.int (a_range T st sf sn g x))) M') : Fn G 10 yX6_range cX6_range 3 (some .int) [.ref (gb_ad G 0), .int (g), .int (x)] mM Q := by
  obtain ⟨hB, hT, hok, hU, hMx, hP, hS, hG, hI, hK, hH⟩ := hC
  have ok := hok.1
  have hn4 := ok.1
  have hst9 := hok.2.1
  have hln := hok.2.2.2.1
  have hsn6 := hok.2.2.2.2.2.2.1
  obtain ⟨U, hU⟩ := hU
  obtain ⟨ft, ln2, lo, hi, le, gi, mo, gu, ts, am2, gv, tl, hG⟩ := hG
  have hN := hW.2.2.1
  refine Fn.of hW.1 [(0, .ref (gb_ad G 0)), (1, .int (g)), (2, .int (x))] (by decide) (Nat.le_of_ble_eq_true rfl) rfl ?_
  intro X O
  refine w_aload_n (n := 1) O dX6_range_0 rfl rfl rfl ?_
  refine w_iload_n (n := 2) O dX6_range_1 rfl rfl rfl ?_
  refine w_cV (n := 5) (ro := some (.int (bI (isGv (g) T.2.2.2.1)))) (R := fun mM' => mM = mM') (st := []) (st1 := [.int (bI (isGv (g) T.2.2.2.1))]) (As := [.int (g)]) (b := 0) O dX6_range_2 ul_X6_110 um_X6_isGiver (f_X6_isGiver (T := T) hW hB ⟨hT.1, hT.2.1, hT.2.2.1, hT.2.2.2⟩ ok ⟨rfl, rfl⟩) rfl (by omega) hB rfl rfl rfl rfl (by decide) (Nat.le_of_ble_eq_true rfl) rfl (fun mhM_1 hM_1 => ?_)
  subst hM_1
  refine w_if_eqB (n := 8) (tgt := 17) O dX6_range_5 (by decide) rfl (fun c_2 => ?_) (fun c_2 => ?_)
  · skip
    refine w_iconst (n := 18) O dX6_range_17 (v := (-1)) (by decide) rfl ?_
    refine w_iret O dX6_range_18 ?_
    have e0 : a_range T st sf sn g x = -1 := by unfold a_range; rw [if_neg (fun q => by rw [c_2] at q; exact absurd q.1 (by decide))]
    rw [e0] at hQ
    try dsimp only at hQ
    exact hQ _ ⟨hB, ⟨hT.1, hT.2.1, hT.2.2.1, hT.2.2.2⟩, hok, ⟨U, ⟨hU.1, hU.2.1, hU.2.2.1, hU.2.2.2⟩⟩, hMx, hP, hS, ⟨_, _, _, _, _, _, _, _, _, _, _, _, ⟨hG.1, hG.2.1, hG.2.2.1, hG.2.2.2.1, hG.2.2.2.2.1, hG.2.2.2.2.2.1, hG.2.2.2.2.2.2.1, hG.2.2.2.2.2.2.2.1, hG.2.2.2.2.2.2.2.2.1, hG.2.2.2.2.2.2.2.2.2.1, hG.2.2.2.2.2.2.2.2.2.2⟩⟩, hI, hK, hH⟩ sm.rf
  · skip
    have hr_j := c_2
    obtain ⟨j, ja, rfl⟩ := isGv_t (by omega) c_2
    have cl_j : (nI j).toNatClampNeg = j := nI_clamp (by omega)
    refine w_iload_n (n := 9) O dX6_range_8 rfl rfl rfl ?_
    refine w_iconst (n := 10) O dX6_range_9 (v := (nI 0)) (by decide) rfl ?_
    refine w_iconst (n := 11) O dX6_range_10 (v := (nI 1)) (by decide) rfl ?_
    refine w_cS (n := 14) (ro := some (.int (bI (wIn (x) (nI (0)) (nI (1)))))) (R := fun mM' => mM = mM') (st := []) (st1 := [.int (bI (wIn (x) (nI (0)) (nI (1))))]) (As := [.int (x), .int (nI 0), .int (nI 1)]) O dX6_range_11 ul_X6_66 um_X6_within (f_X6_within hW ⟨rfl, rfl⟩) rfl rfl rfl (by decide) (Nat.le_of_ble_eq_true rfl) rfl (fun mhM_3 hM_3 => ?_)
    subst hM_3
    refine w_if_neB (n := 17) (tgt := 19) O dX6_range_14 (by decide) rfl (fun c_4 => ?_) (fun c_4 => ?_)
    · skip
      have hr_k := c_4
      obtain ⟨k, ka, kb, rfl⟩ := wIn_t (by omega) c_4 (by omega)
      have cl_k : (nI k).toNatClampNeg = k := nI_clamp (by omega)
      refine w_aload_n (n := 20) O dX6_range_19 rfl rfl rfl ?_
      refine w_getf (n := 23) O 5 dX6_range_20 (by omega) hB rfl (by decide) uX6 uf_X6_43 rfl rfl ?_
      refine w_aload_n (n := 24) O dX6_range_23 rfl rfl rfl ?_
      refine w_getf (n := 27) O 0 dX6_range_24 (by omega) hB rfl (by decide) uX6 uf_X6_10 rfl rfl ?_
      refine w_aload_n (n := 28) O dX6_range_27 rfl rfl rfl ?_
      refine w_getf (n := 31) O 1 dX6_range_28 (by omega) hB rfl (by decide) uX6 uf_X6_16 rfl rfl ?_
      refine w_iconst (n := 32) O dX6_range_31 (v := (nI 0)) (by decide) rfl ?_
      refine w_top (bI false) (by decide) ?_
      refine w_cV (n := 35) (ro := none) (R := fun mM' => ∃ ft' ln' lo' hi' le' gi' mo' gu' ts' am', isG G mM' st sf sn (ft') (ln') (lo') (hi') (le') (gi') (mo') (gu') (ts') (am') T.2.2.2.1 false ∧ gFold T (fitB T st sf sn) false (10 ^ T.2.2.2.1) ft' ln' lo' hi' le' ∧ cT G mM' 5 ∧ sm2 mM mM' 5 8 19 29) (st := []) (st1 := []) (As := [.ref (gb_ad G 1), .ref (gb_ad G 5), .int (bI (false))]) (b := 19) O dX6_range_32 ul_X6_209 um_X0_search (f_X0_search (T := T) hW ⟨hG.1, hG.2.1, hG.2.2.1, hG.2.2.2.1, hG.2.2.2.2.1, hG.2.2.2.2.2.1, hG.2.2.2.2.2.2.1, hG.2.2.2.2.2.2.2.1, hG.2.2.2.2.2.2.2.2.1, hG.2.2.2.2.2.2.2.2.2.1, hG.2.2.2.2.2.2.2.2.2.2⟩ ⟨hT.1, hT.2.1, hT.2.2.1, hT.2.2.2⟩ ok ⟨hU.1, hU.2.1, hU.2.2.1, hU.2.2.2⟩ hok.2.2.2.2.2.2.2.1 hsn6 (t2 := false) (fun M' a b c d e f g h i j h1 h2 h3 h4 => ⟨rfl, a, b, c, d, e, f, g, h, i, j, h1, h2, h3, h4⟩)) rfl (by omega) hG.1 rfl rfl rfl rfl (by omega) (Nat.le_of_ble_eq_true rfl) rfl (fun mhM_5 hM_5 => ?_)
      obtain ⟨ft3, ln3, lo3, hi3, le3, gi3, mo3, gu3, ts3, am3, hG3, hf3, ⟨U3, hU3⟩, hshM_5⟩ := hM_5
      have hft : ft3 ≤ 10000 := by rw [hf3.1]; exact Nat.le_trans (sCnt_le _ _) (Nat.pow_le_pow_right (show 0 < 10 by decide) hn4)
      refine w_aload_n (n := 36) O dX6_range_35 rfl rfl rfl ?_
      refine w_getf (n := 39) O 5 dX6_range_36 (by omega) ((hshM_5 (0) (by omega) (by omega)).trans hB) rfl (by decide) uX6 uf_X6_43 rfl rfl ?_
      refine w_getf (n := 42) O 3 dX6_range_39 (by omega) hG3.1 rfl (by decide) uX0 uf_X6_213 rfl rfl ?_
      refine w_if_neN (n := 45) (tgt := 48) O dX6_range_42 (by omega) (by decide) rfl (fun c_6 => ?_) (fun c_6 => ?_)
      · skip
        refine w_iload_n (n := 49) O dX6_range_48 rfl rfl rfl ?_
        refine w_if_neN (n := 52) (tgt := 64) O dX6_range_49 (by omega) (by decide) rfl (fun c_7 => ?_) (fun c_7 => ?_)
        · skip
          refine w_aload_n (n := 65) O dX6_range_64 rfl rfl rfl ?_
          refine w_getf (n := 68) O 5 dX6_range_65 (by omega) ((hshM_5 (0) (by omega) (by omega)).trans hB) rfl (by decide) uX6 uf_X6_43 rfl rfl ?_
          refine w_getf (n := 71) O 6 dX6_range_68 (by omega) hG3.1 rfl (by decide) uX0 uf_X6_222 rfl rfl ?_
          refine w_iload_n (n := 72) O dX6_range_71 rfl rfl rfl ?_
          refine w_ialdN (n := 73) O dX6_range_72 hW.2.1 (by omega) hG3.2.2.2.2.1 (by omega) (by decide) rfl ?_
          refine w_iret O dX6_range_73 ?_
          have e0 : a_range T st sf sn (nI j) (nI k) = (nI (hi3 (j))) := by unfold a_range; rw [if_pos ⟨hr_j, hr_k⟩, show allG T = 10 ^ T.2.2.2.1 from rfl, ← hf3.1, if_neg c_6, if_neg (fun e => c_7 ((nI_eq (by omega) (by omega)).mp e)), cl_j, (hf3.2.2.1 j (by omega)).2]
          rw [e0] at hQ
          try dsimp only at hQ
          exact hQ _ ⟨((hshM_5 (0) (by omega) (by omega)).trans hB), ⟨((hshM_5 (1) (by omega) (by omega)).trans hT.1), ((hshM_5 (2) (by omega) (by omega)).trans hT.2.1), ((hshM_5 (3) (by omega) (by omega)).trans hT.2.2.1), ((hshM_5 (4) (by omega) (by omega)).trans hT.2.2.2)⟩, hok, ⟨U3, ⟨hU3.1, hU3.2.1, hU3.2.2.1, hU3.2.2.2⟩⟩, (hMx.kp (kp_sm2 hshM_5 (by omega) (by omega))), (hP.kp (kp_sm2 hshM_5 (by omega) (by omega))), (hS.kp (kp_sm2 hshM_5 (by omega) (by omega))), ⟨_, _, _, _, _, _, _, _, _, _, _, _, ⟨hG3.1, hG3.2.1, hG3.2.2.1, hG3.2.2.2.1, hG3.2.2.2.2.1, hG3.2.2.2.2.2.1, hG3.2.2.2.2.2.2.1, hG3.2.2.2.2.2.2.2.1, hG3.2.2.2.2.2.2.2.2.1, hG3.2.2.2.2.2.2.2.2.2.1, hG3.2.2.2.2.2.2.2.2.2.2⟩⟩, (hI.kp (kp_sm2 hshM_5 (by omega) (by omega))), ((hshM_5 (39) (by omega) (by omega)).trans hK), (hH.kp (kp_sm2 hshM_5 (by omega) (by omega)))⟩ (sm.rf.tr (hshM_5.one (by omega)))
        · skip
          refine w_aload_n (n := 53) O dX6_range_52 rfl rfl rfl ?_
          refine w_getf (n := 56) O 5 dX6_range_53 (by omega) ((hshM_5 (0) (by omega) (by omega)).trans hB) rfl (by decide) uX6 uf_X6_43 rfl rfl ?_
          refine w_getf (n := 59) O 5 dX6_range_56 (by omega) hG3.1 rfl (by decide) uX0 uf_X6_219 rfl rfl ?_
          refine w_iload_n (n := 60) O dX6_range_59 rfl rfl rfl ?_
          refine w_ialdN (n := 61) O dX6_range_60 hW.2.1 (by omega) hG3.2.2.2.1 (by omega) (by decide) rfl ?_
          refine w_goto (tgt := 73) O dX6_range_61 (by decide) ?_
          refine w_iret O dX6_range_73 ?_
          have e0 : a_range T st sf sn (nI j) (nI k) = (nI (lo3 (j))) := by unfold a_range; rw [if_pos ⟨hr_j, hr_k⟩, show allG T = 10 ^ T.2.2.2.1 from rfl, ← hf3.1, if_neg c_6, if_pos (by rw [c_7]), cl_j, (hf3.2.2.1 j (by omega)).1]
          rw [e0] at hQ
          try dsimp only at hQ
          exact hQ _ ⟨((hshM_5 (0) (by omega) (by omega)).trans hB), ⟨((hshM_5 (1) (by omega) (by omega)).trans hT.1), ((hshM_5 (2) (by omega) (by omega)).trans hT.2.1), ((hshM_5 (3) (by omega) (by omega)).trans hT.2.2.1), ((hshM_5 (4) (by omega) (by omega)).trans hT.2.2.2)⟩, hok, ⟨U3, ⟨hU3.1, hU3.2.1, hU3.2.2.1, hU3.2.2.2⟩⟩, (hMx.kp (kp_sm2 hshM_5 (by omega) (by omega))), (hP.kp (kp_sm2 hshM_5 (by omega) (by omega))), (hS.kp (kp_sm2 hshM_5 (by omega) (by omega))), ⟨_, _, _, _, _, _, _, _, _, _, _, _, ⟨hG3.1, hG3.2.1, hG3.2.2.1, hG3.2.2.2.1, hG3.2.2.2.2.1, hG3.2.2.2.2.2.1, hG3.2.2.2.2.2.2.1, hG3.2.2.2.2.2.2.2.1, hG3.2.2.2.2.2.2.2.2.1, hG3.2.2.2.2.2.2.2.2.2.1, hG3.2.2.2.2.2.2.2.2.2.2⟩⟩, (hI.kp (kp_sm2 hshM_5 (by omega) (by omega))), ((hshM_5 (39) (by omega) (by omega)).trans hK), (hH.kp (kp_sm2 hshM_5 (by omega) (by omega)))⟩ (sm.rf.tr (hshM_5.one (by omega)))
      · skip
        refine w_bipush (n := 47) O dX6_range_45 (v := (-4)) (by decide) rfl ?_
        refine w_iret O dX6_range_47 ?_
        have e0 : a_range T st sf sn (nI j) (nI k) = -4 := by unfold a_range; rw [if_pos ⟨hr_j, hr_k⟩, show allG T = 10 ^ T.2.2.2.1 from rfl, ← hf3.1, if_pos c_6]
        rw [e0] at hQ
        try dsimp only at hQ
        exact hQ _ ⟨((hshM_5 (0) (by omega) (by omega)).trans hB), ⟨((hshM_5 (1) (by omega) (by omega)).trans hT.1), ((hshM_5 (2) (by omega) (by omega)).trans hT.2.1), ((hshM_5 (3) (by omega) (by omega)).trans hT.2.2.1), ((hshM_5 (4) (by omega) (by omega)).trans hT.2.2.2)⟩, hok, ⟨U3, ⟨hU3.1, hU3.2.1, hU3.2.2.1, hU3.2.2.2⟩⟩, (hMx.kp (kp_sm2 hshM_5 (by omega) (by omega))), (hP.kp (kp_sm2 hshM_5 (by omega) (by omega))), (hS.kp (kp_sm2 hshM_5 (by omega) (by omega))), ⟨_, _, _, _, _, _, _, _, _, _, _, _, ⟨hG3.1, hG3.2.1, hG3.2.2.1, hG3.2.2.2.1, hG3.2.2.2.2.1, hG3.2.2.2.2.2.1, hG3.2.2.2.2.2.2.1, hG3.2.2.2.2.2.2.2.1, hG3.2.2.2.2.2.2.2.2.1, hG3.2.2.2.2.2.2.2.2.2.1, hG3.2.2.2.2.2.2.2.2.2.2⟩⟩, (hI.kp (kp_sm2 hshM_5 (by omega) (by omega))), ((hshM_5 (39) (by omega) (by omega)).trans hK), (hH.kp (kp_sm2 hshM_5 (by omega) (by omega)))⟩ (sm.rf.tr (hshM_5.one (by omega)))
    · skip
      refine w_iconst (n := 18) O dX6_range_17 (v := (-1)) (by decide) rfl ?_
      refine w_iret O dX6_range_18 ?_
      have e0 : a_range T st sf sn (nI j) x = -1 := by unfold a_range; rw [if_neg (fun q => by rw [c_4] at q; exact absurd q.2 (by decide))]
      rw [e0] at hQ
      try dsimp only at hQ
      exact hQ _ ⟨hB, ⟨hT.1, hT.2.1, hT.2.2.1, hT.2.2.2⟩, hok, ⟨U, ⟨hU.1, hU.2.1, hU.2.2.1, hU.2.2.2⟩⟩, hMx, hP, hS, ⟨_, _, _, _, _, _, _, _, _, _, _, _, ⟨hG.1, hG.2.1, hG.2.2.1, hG.2.2.2.1, hG.2.2.2.2.1, hG.2.2.2.2.2.1, hG.2.2.2.2.2.2.1, hG.2.2.2.2.2.2.2.1, hG.2.2.2.2.2.2.2.2.1, hG.2.2.2.2.2.2.2.2.2.1, hG.2.2.2.2.2.2.2.2.2.2⟩⟩, hI, hK, hH⟩ sm.rf
set_option maxRecDepth 100000 in
set_option maxHeartbeats 4000000 in
theorem f_X6_next {G : gb_G} (hW : gW G) {Q : Option Value → gb_M → Prop} {mM : gb_M} {T : Tw} {im : Nat → Tw} {kp : Nat → Bool} {bs : Nat → Nat} {ln fa : Nat} {st sf : Nat → Nat} {sn : Nat} {sh : Sh} {sc : Nat → Nat → Int32} {tn : Nat} (hC : isCW G mM T im kp bs ln fa st sf sn sh sc tn) {x : Int32}  (hQ : ∀ M', isCW G M' T im kp bs ln fa st sf sn sh sc tn → sm mM M' 0 48 → Q (some (.int (a_next T st sf sn x))) M') : Fn G 10 yX6_next cX6_next 6 (some .int) [.ref (gb_ad G 0), .int (x)] mM Q := by
  obtain ⟨hB, hT, hok, hU, hMx, hP, hS, hG, hI, hK, hH⟩ := hC
  have ok := hok.1
  have hn4 := ok.1
  have hst9 := hok.2.1
  have hln := hok.2.2.2.1
  have hsn6 := hok.2.2.2.2.2.2.1
  obtain ⟨U, hU⟩ := hU
  obtain ⟨ft, ln2, lo, hi, le, gi, mo, gu, ts, am2, gv, tl, hG⟩ := hG
  have hN := hW.2.2.1
  refine Fn.of hW.1 [(0, .ref (gb_ad G 0)), (1, .int (x))] (by decide) (Nat.le_of_ble_eq_true rfl) rfl ?_
  intro X O
  refine w_iload_n (n := 1) O dX6_next_0 rfl rfl rfl ?_
  refine w_iconst (n := 2) O dX6_next_1 (v := (nI 0)) (by decide) rfl ?_
  refine w_iconst (n := 3) O dX6_next_2 (v := (nI 1)) (by decide) rfl ?_
  refine w_cS (n := 6) (ro := some (.int (bI (wIn (x) (nI (0)) (nI (1)))))) (R := fun mM' => mM = mM') (st := []) (st1 := [.int (bI (wIn (x) (nI (0)) (nI (1))))]) (As := [.int (x), .int (nI 0), .int (nI 1)]) O dX6_next_3 ul_X6_66 um_X6_within (f_X6_within hW ⟨rfl, rfl⟩) rfl rfl rfl (by decide) (Nat.le_of_ble_eq_true rfl) rfl (fun mhM_1 hM_1 => ?_)
  subst hM_1
  refine w_if_neB (n := 9) (tgt := 11) O dX6_next_6 (by decide) rfl (fun c_2 => ?_) (fun c_2 => ?_)
  · skip
    have hr_j := c_2
    obtain ⟨j, ja, jb, rfl⟩ := wIn_t (by omega) c_2 (by omega)
    have cl_j : (nI j).toNatClampNeg = j := nI_clamp (by omega)
    refine w_aload_n (n := 12) O dX6_next_11 rfl rfl rfl ?_
    refine w_getf (n := 15) O 5 dX6_next_12 (by omega) hB rfl (by decide) uX6 uf_X6_43 rfl rfl ?_
    refine w_aload_n (n := 16) O dX6_next_15 rfl rfl rfl ?_
    refine w_getf (n := 19) O 0 dX6_next_16 (by omega) hB rfl (by decide) uX6 uf_X6_10 rfl rfl ?_
    refine w_aload_n (n := 20) O dX6_next_19 rfl rfl rfl ?_
    refine w_getf (n := 23) O 1 dX6_next_20 (by omega) hB rfl (by decide) uX6 uf_X6_16 rfl rfl ?_
    refine w_iconst (n := 24) O dX6_next_23 (v := (nI 1)) (by decide) rfl ?_
    refine w_top (bI true) (by decide) ?_
    refine w_cV (n := 27) (ro := none) (R := fun mM' => ∃ ft' ln' lo' hi' le' gi' mo' gu' ts' am', isG G mM' st sf sn (ft') (ln') (lo') (hi') (le') (gi') (mo') (gu') (ts') (am') T.2.2.2.1 true ∧ gFold T (fitB T st sf sn) true (10 ^ T.2.2.2.1) ft' ln' lo' hi' le' ∧ cT G mM' 5 ∧ sm2 mM mM' 5 8 19 29) (st := []) (st1 := []) (As := [.ref (gb_ad G 1), .ref (gb_ad G 5), .int (bI (true))]) (b := 19) O dX6_next_24 ul_X6_209 um_X0_search (f_X0_search (T := T) hW ⟨hG.1, hG.2.1, hG.2.2.1, hG.2.2.2.1, hG.2.2.2.2.1, hG.2.2.2.2.2.1, hG.2.2.2.2.2.2.1, hG.2.2.2.2.2.2.2.1, hG.2.2.2.2.2.2.2.2.1, hG.2.2.2.2.2.2.2.2.2.1, hG.2.2.2.2.2.2.2.2.2.2⟩ ⟨hT.1, hT.2.1, hT.2.2.1, hT.2.2.2⟩ ok ⟨hU.1, hU.2.1, hU.2.2.1, hU.2.2.2⟩ hok.2.2.2.2.2.2.2.1 hsn6 (t2 := true) (fun M' a b c d e f g h i j h1 h2 h3 h4 => ⟨rfl, a, b, c, d, e, f, g, h, i, j, h1, h2, h3, h4⟩)) rfl (by omega) hG.1 rfl rfl rfl rfl (by omega) (Nat.le_of_ble_eq_true rfl) rfl (fun mhM_3 hM_3 => ?_)
    obtain ⟨ft3, ln3, lo3, hi3, le3, gi3, mo3, gu3, ts3, am3, hG3, hf3, ⟨U3, hU3⟩, hshM_3⟩ := hM_3
    have h104 : 10 ^ T.2.2.2.1 ≤ 10000 := Nat.pow_le_pow_right (show 0 < 10 by decide) hn4
    have hft : ft3 ≤ 10000 := by rw [hf3.1]; exact Nat.le_trans (sCnt_le _ _) h104
    have hle3 : ∀ k, k < 90 → le3 k ≤ 10000 := fun k hk => by rw [hf3.2.2.2 k hk]; exact Nat.le_trans (sCnt_le _ _) h104
    refine w_bipush (n := 29) O dX6_next_27 (v := (-4)) (by decide) rfl ?_
    refine w_istore_n (n := 30) (lv' := [(2, .int (-4)), (0, .ref (gb_ad G 0)), (1, .int (nI (j)))]) O dX6_next_29 rfl (by decide) rfl rfl ?_
    refine w_aload_n (n := 31) O dX6_next_30 rfl rfl rfl ?_
    refine w_getf (n := 34) O 5 dX6_next_31 (by omega) ((hshM_3 (0) (by omega) (by omega)).trans hB) rfl (by decide) uX6 uf_X6_43 rfl rfl ?_
    refine w_getf (n := 37) O 3 dX6_next_34 (by omega) hG3.1 rfl (by decide) uX0 uf_X6_213 rfl rfl ?_
    refine w_istore_n (n := 38) (lv' := [(3, .int (nI (ft3))), (2, .int (-4)), (0, .ref (gb_ad G 0)), (1, .int (nI (j)))]) O dX6_next_37 rfl (by decide) rfl rfl ?_
    refine w_iconst (n := 39) O dX6_next_38 (v := (nI 0)) (by decide) rfl ?_
    refine w_istore (n := 41) (lv' := [(4, .int (nI 0)), (3, .int (nI (ft3))), (2, .int (-4)), (0, .ref (gb_ad G 0)), (1, .int (nI (j)))]) O dX6_next_39 (by decide) rfl rfl ?_
    have LN : ∀ (k : Nat) (i few : Nat) (o : Option Nat), 9 - i = k → i ≤ 9 → (o, few) = nxt (wrst T st sf sn) (sCnt (fitB T st sf sn) (allG T)) i → few ≤ 10000 → (∀ k, o = some k → k < 9) → Wm G X 6 Q 41 [(0, .ref (gb_ad G 0)), (1, .int (nI (j))), (2, .int (oI o)), (3, .int (nI (few))), (4, .int (nI (i)))] [] mhM_3 := by
      intro k
      induction k using Nat.strongRecOn with
      | ind k ih_LN =>
        intro i few o hk hi9 hnx hfw hob
        refine w_iload (n := 43) O dX6_next_41 rfl rfl ?_
        refine w_bipush (n := 45) O dX6_next_43 (v := (nI 9)) (by decide) rfl ?_
        refine w_icmp_geN (n := 48) (tgt := 77) O dX6_next_45 (by omega) (by omega) (by decide) rfl (fun c_4 => ?_) (fun c_4 => ?_)
        · skip
          refine w_iload_n (n := 78) O dX6_next_77 rfl rfl rfl ?_
          refine w_bipush (n := 80) O dX6_next_78 (v := (-4)) (by decide) rfl ?_
          refine w_icmp_eq (n := 83) (tgt := 87) O dX6_next_80 (by decide) rfl (fun c_5 => ?_) (fun c_5 => ?_)
          · skip
            refine w_iload_n (n := 88) O dX6_next_87 rfl rfl rfl ?_
            refine w_goto (tgt := 92) O dX6_next_88 (by decide) ?_
            refine w_iret O dX6_next_92 ?_
            have e0 : a_next T st sf sn (nI j) = (oI o) := by unfold a_next; rw [if_pos hr_j, show 9 = i by omega, ← hnx]; exact if_pos (Or.inl (oI_none (fun k hk => by have := hob k hk; omega) c_5))
            rw [e0] at hQ
            try dsimp only at hQ
            exact hQ _ ⟨((hshM_3 (0) (by omega) (by omega)).trans hB), ⟨((hshM_3 (1) (by omega) (by omega)).trans hT.1), ((hshM_3 (2) (by omega) (by omega)).trans hT.2.1), ((hshM_3 (3) (by omega) (by omega)).trans hT.2.2.1), ((hshM_3 (4) (by omega) (by omega)).trans hT.2.2.2)⟩, hok, ⟨U3, ⟨hU3.1, hU3.2.1, hU3.2.2.1, hU3.2.2.2⟩⟩, (hMx.kp (kp_sm2 hshM_3 (by omega) (by omega))), (hP.kp (kp_sm2 hshM_3 (by omega) (by omega))), (hS.kp (kp_sm2 hshM_3 (by omega) (by omega))), ⟨_, _, _, _, _, _, _, _, _, _, _, _, ⟨hG3.1, hG3.2.1, hG3.2.2.1, hG3.2.2.2.1, hG3.2.2.2.2.1, hG3.2.2.2.2.2.1, hG3.2.2.2.2.2.2.1, hG3.2.2.2.2.2.2.2.1, hG3.2.2.2.2.2.2.2.2.1, hG3.2.2.2.2.2.2.2.2.2.1, hG3.2.2.2.2.2.2.2.2.2.2⟩⟩, (hI.kp (kp_sm2 hshM_3 (by omega) (by omega))), ((hshM_3 (39) (by omega) (by omega)).trans hK), (hH.kp (kp_sm2 hshM_3 (by omega) (by omega)))⟩ (sm.rf.tr (hshM_3.one (by omega)))
          · skip
            refine w_iload_n (n := 84) O dX6_next_83 rfl rfl rfl ?_
            refine w_if_neN (n := 87) (tgt := 91) O dX6_next_84 (by omega) (by decide) rfl (fun c_6 => ?_) (fun c_6 => ?_)
            · skip
              refine w_iload_n (n := 92) O dX6_next_91 rfl rfl rfl ?_
              refine w_iret O dX6_next_92 ?_
              have e0 : a_next T st sf sn (nI j) = (nI (few)) := by unfold a_next; rw [if_pos hr_j, show 9 = i by omega, ← hnx]; exact if_neg (fun q => q.elim (fun e => c_5 (by rw [show o = none from e]; rfl)) (fun e => c_6 ((nI_eq (by omega) (by omega)).mp e)))
              rw [e0] at hQ
              try dsimp only at hQ
              exact hQ _ ⟨((hshM_3 (0) (by omega) (by omega)).trans hB), ⟨((hshM_3 (1) (by omega) (by omega)).trans hT.1), ((hshM_3 (2) (by omega) (by omega)).trans hT.2.1), ((hshM_3 (3) (by omega) (by omega)).trans hT.2.2.1), ((hshM_3 (4) (by omega) (by omega)).trans hT.2.2.2)⟩, hok, ⟨U3, ⟨hU3.1, hU3.2.1, hU3.2.2.1, hU3.2.2.2⟩⟩, (hMx.kp (kp_sm2 hshM_3 (by omega) (by omega))), (hP.kp (kp_sm2 hshM_3 (by omega) (by omega))), (hS.kp (kp_sm2 hshM_3 (by omega) (by omega))), ⟨_, _, _, _, _, _, _, _, _, _, _, _, ⟨hG3.1, hG3.2.1, hG3.2.2.1, hG3.2.2.2.1, hG3.2.2.2.2.1, hG3.2.2.2.2.2.1, hG3.2.2.2.2.2.2.1, hG3.2.2.2.2.2.2.2.1, hG3.2.2.2.2.2.2.2.2.1, hG3.2.2.2.2.2.2.2.2.2.1, hG3.2.2.2.2.2.2.2.2.2.2⟩⟩, (hI.kp (kp_sm2 hshM_3 (by omega) (by omega))), ((hshM_3 (39) (by omega) (by omega)).trans hK), (hH.kp (kp_sm2 hshM_3 (by omega) (by omega)))⟩ (sm.rf.tr (hshM_3.one (by omega)))
            · skip
              refine w_iload_n (n := 88) O dX6_next_87 rfl rfl rfl ?_
              refine w_goto (tgt := 92) O dX6_next_88 (by decide) ?_
              refine w_iret O dX6_next_92 ?_
              have e0 : a_next T st sf sn (nI j) = (oI o) := by unfold a_next; rw [if_pos hr_j, show 9 = i by omega, ← hnx]; exact if_pos (Or.inr (by rw [c_6]))
              rw [e0] at hQ
              try dsimp only at hQ
              exact hQ _ ⟨((hshM_3 (0) (by omega) (by omega)).trans hB), ⟨((hshM_3 (1) (by omega) (by omega)).trans hT.1), ((hshM_3 (2) (by omega) (by omega)).trans hT.2.1), ((hshM_3 (3) (by omega) (by omega)).trans hT.2.2.1), ((hshM_3 (4) (by omega) (by omega)).trans hT.2.2.2)⟩, hok, ⟨U3, ⟨hU3.1, hU3.2.1, hU3.2.2.1, hU3.2.2.2⟩⟩, (hMx.kp (kp_sm2 hshM_3 (by omega) (by omega))), (hP.kp (kp_sm2 hshM_3 (by omega) (by omega))), (hS.kp (kp_sm2 hshM_3 (by omega) (by omega))), ⟨_, _, _, _, _, _, _, _, _, _, _, _, ⟨hG3.1, hG3.2.1, hG3.2.2.1, hG3.2.2.2.1, hG3.2.2.2.2.1, hG3.2.2.2.2.2.1, hG3.2.2.2.2.2.2.1, hG3.2.2.2.2.2.2.2.1, hG3.2.2.2.2.2.2.2.2.1, hG3.2.2.2.2.2.2.2.2.2.1, hG3.2.2.2.2.2.2.2.2.2.2⟩⟩, (hI.kp (kp_sm2 hshM_3 (by omega) (by omega))), ((hshM_3 (39) (by omega) (by omega)).trans hK), (hH.kp (kp_sm2 hshM_3 (by omega) (by omega)))⟩ (sm.rf.tr (hshM_3.one (by omega)))
        · skip
          refine w_aload_n (n := 49) O dX6_next_48 rfl rfl rfl ?_
          refine w_getf (n := 52) O 5 dX6_next_49 (by omega) ((hshM_3 (0) (by omega) (by omega)).trans hB) rfl (by decide) uX6 uf_X6_43 rfl rfl ?_
          refine w_iload (n := 54) O dX6_next_52 rfl rfl ?_
          refine w_cV (n := 57) (ro := some (.int (nI (sMaxv (fun v => le3 (i * 10 + v)) 10)))) (R := fun mM' => mhM_3 = mM') (st := []) (st1 := [.int (nI (sMaxv (fun v => le3 (i * 10 + v)) 10))]) (As := [.int (nI (i))]) (b := 19) O dX6_next_54 ul_X6_225 um_X0_worstLeft (f_X0_worstLeft hW ⟨hG3.1, hG3.2.1, hG3.2.2.1, hG3.2.2.2.1, hG3.2.2.2.2.1, hG3.2.2.2.2.2.1, hG3.2.2.2.2.2.2.1, hG3.2.2.2.2.2.2.2.1, hG3.2.2.2.2.2.2.2.2.1, hG3.2.2.2.2.2.2.2.2.2.1, hG3.2.2.2.2.2.2.2.2.2.2⟩ (by omega) hle3 ⟨rfl, rfl⟩) rfl (by omega) hG3.1 rfl rfl rfl rfl (by decide) (Nat.le_of_ble_eq_true rfl) rfl (fun mhM_7 hM_7 => ?_)
          subst hM_7
          have hwr : sMaxv (fun v => le3 (i * 10 + v)) 10 = wrst T st sf sn i := sMaxv_cong (fun v hv => by rw [hf3.2.2.2 _ (by omega)]; rfl)
          have hwl : sMaxv (fun v => le3 (i * 10 + v)) 10 ≤ 10000 := sMaxv_le (fun v hv => hle3 _ (by omega))
          refine w_istore (n := 59) (lv' := [(5, .int (nI (sMaxv (fun v => le3 (i * 10 + v)) 10))), (0, .ref (gb_ad G 0)), (1, .int (nI (j))), (2, .int (oI o)), (3, .int (nI (few))), (4, .int (nI (i)))]) O dX6_next_57 (by decide) rfl rfl ?_
          refine w_iload (n := 61) O dX6_next_59 rfl rfl ?_
          refine w_iload_n (n := 62) O dX6_next_61 rfl rfl rfl ?_
          refine w_icmp_geN (n := 65) (tgt := 71) O dX6_next_62 (by omega) (by omega) (by decide) rfl (fun c_8 => ?_) (fun c_8 => ?_)
          · skip
            refine w_iincN (n := 74) (lv' := [(4, .int (nI (i + 1))), (5, .int (nI (sMaxv (fun v => le3 (i * 10 + v)) 10))), (0, .ref (gb_ad G 0)), (1, .int (nI (j))), (2, .int (oI o)), (3, .int (nI (few)))]) O dX6_next_71 rfl (by decide) rfl rfl ?_
            refine w_goto (tgt := 41) O dX6_next_74 (by decide) ?_
            refine w_lv (lv2 := [(0, .ref (gb_ad G 0)), (1, .int (nI (j))), (2, .int (oI o)), (3, .int (nI (few))), (4, .int (nI (i + 1)))]) [2, 3, 4, 5, 0] rfl ?_
            exact ih_LN _ (by omega) (i + 1) (few) o rfl (by omega) (by simp only [nxt]; rw [← hnx]; exact (if_neg (by show ¬ _ < _; rw [← hwr]; omega)).symm) (by omega) hob
          · skip
            refine w_iload (n := 67) O dX6_next_65 rfl rfl ?_
            refine w_istore_n (n := 68) (lv' := [(3, .int (nI (sMaxv (fun v => le3 (i * 10 + v)) 10))), (5, .int (nI (sMaxv (fun v => le3 (i * 10 + v)) 10))), (0, .ref (gb_ad G 0)), (1, .int (nI (j))), (2, .int (oI o)), (4, .int (nI (i)))]) O dX6_next_67 rfl (by decide) rfl rfl ?_
            refine w_iload (n := 70) O dX6_next_68 rfl rfl ?_
            refine w_istore_n (n := 71) (lv' := [(2, .int (nI (i))), (3, .int (nI (sMaxv (fun v => le3 (i * 10 + v)) 10))), (5, .int (nI (sMaxv (fun v => le3 (i * 10 + v)) 10))), (0, .ref (gb_ad G 0)), (1, .int (nI (j))), (4, .int (nI (i)))]) O dX6_next_70 rfl (by decide) rfl rfl ?_
            refine w_iincN (n := 74) (lv' := [(4, .int (nI (i + 1))), (2, .int (nI (i))), (3, .int (nI (sMaxv (fun v => le3 (i * 10 + v)) 10))), (5, .int (nI (sMaxv (fun v => le3 (i * 10 + v)) 10))), (0, .ref (gb_ad G 0)), (1, .int (nI (j)))]) O dX6_next_71 rfl (by decide) rfl rfl ?_
            refine w_goto (tgt := 41) O dX6_next_74 (by decide) ?_
            refine w_lv (lv2 := [(0, .ref (gb_ad G 0)), (1, .int (nI (j))), (2, .int (nI (i))), (3, .int (nI (sMaxv (fun v => le3 (i * 10 + v)) 10))), (4, .int (nI (i + 1)))]) [4, 5, 1, 2, 0] rfl ?_
            exact ih_LN _ (by omega) (i + 1) (sMaxv (fun v => le3 (i * 10 + v)) 10) (some i) rfl (by omega) (by simp only [nxt]; rw [← hnx]; rw [hwr]; exact (if_pos (by show _ < _; rw [← hwr]; omega)).symm) (by omega) (fun k hk => by cases hk; omega)
    refine w_lv (lv2 := [(0, .ref (gb_ad G 0)), (1, .int (nI (j))), (2, .int (-4)), (3, .int (nI (ft3))), (4, .int (nI 0))]) [3, 4, 2, 1, 0] rfl ?_
    exact LN _ 0 ft3 none rfl (by omega) (by rw [hf3.1]; rfl) hft (fun k hk => by cases hk)
  · skip
    refine w_iconst (n := 10) O dX6_next_9 (v := (-1)) (by decide) rfl ?_
    refine w_iret O dX6_next_10 ?_
    have e0 : a_next T st sf sn x = -1 := by unfold a_next; rw [if_neg (by rw [c_2]; decide)]
    rw [e0] at hQ
    try dsimp only at hQ
    exact hQ _ ⟨hB, ⟨hT.1, hT.2.1, hT.2.2.1, hT.2.2.2⟩, hok, ⟨U, ⟨hU.1, hU.2.1, hU.2.2.1, hU.2.2.2⟩⟩, hMx, hP, hS, ⟨_, _, _, _, _, _, _, _, _, _, _, _, ⟨hG.1, hG.2.1, hG.2.2.1, hG.2.2.2.1, hG.2.2.2.2.1, hG.2.2.2.2.2.1, hG.2.2.2.2.2.2.1, hG.2.2.2.2.2.2.2.1, hG.2.2.2.2.2.2.2.2.1, hG.2.2.2.2.2.2.2.2.2.1, hG.2.2.2.2.2.2.2.2.2.2⟩⟩, hI, hK, hH⟩ sm.rf
