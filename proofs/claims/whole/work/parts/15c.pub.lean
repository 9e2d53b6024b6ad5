set_option maxRecDepth 100000 in
set_option maxHeartbeats 4000000 in
theorem f_X6_alter {G : gb_G} (hW : gW G) {Q : Option Value → gb_M → Prop} {mM : gb_M} {T : Tw} {im : Nat → Tw} {kp : Nat → Bool} {bs : Nat → Nat} {ln fa : Nat} {st sf : Nat → Nat} {sn : Nat} {sh : Sh} {sc : Nat → Nat → Int32} {tn : Nat} (hC : isCW G mM T im kp bs ln fa st sf sn sh sc tn) {g x v : Int32}  (hQ : ∀ M', isCW G M' (s_alter T g x v) im kp bs ln fa st sf sn sh sc tn → sm mM M' 0 48 → Q (some (.int (a_alter T g x v))) M') : Fn G 2 yX6_alter cX6_alter 5 (some .int) [.ref (gb_ad G 0), .int (g), .int (x), .int (v)] mM Q := by
  obtain ⟨hB, hT, hok, hU, hMx, hP, hS, hG, hI, hK, hH⟩ := hC
  have ok := hok.1
  have hn4 := ok.1
  have hst9 := hok.2.1
  have hln := hok.2.2.2.1
  have hsn6 := hok.2.2.2.2.2.2.1
  have hN := hW.2.2.1
  refine Fn.of hW.1 [(0, .ref (gb_ad G 0)), (1, .int (g)), (2, .int (x)), (3, .int (v))] (by decide) (Nat.le_of_ble_eq_true rfl) rfl ?_
  intro X O
  refine w_aload_n (n := 1) O dX6_alter_0 rfl rfl rfl ?_
  refine w_iload_n (n := 2) O dX6_alter_1 rfl rfl rfl ?_
  refine w_cV (n := 5) (ro := some (.int (bI (isGv (g) T.2.2.2.1)))) (R := fun mM' => mM = mM') (st := []) (st1 := [.int (bI (isGv (g) T.2.2.2.1))]) (As := [.int (g)]) (b := 0) O dX6_alter_2 ul_X6_110 um_X6_isGiver (f_X6_isGiver (T := T) hW hB ⟨hT.1, hT.2.1, hT.2.2.1, hT.2.2.2⟩ ok ⟨rfl, rfl⟩) rfl (by omega) hB rfl rfl rfl rfl (by decide) (Nat.le_of_ble_eq_true rfl) rfl (fun mhM_1 hM_1 => ?_)
  subst hM_1
  refine w_if_eqB (n := 8) (tgt := 17) O dX6_alter_5 (by decide) rfl (fun c_2 => ?_) (fun c_2 => ?_)
  · skip
    refine w_iconst (n := 18) O dX6_alter_17 (v := (-1)) (by decide) rfl ?_
    refine w_iret O dX6_alter_18 ?_
    have e0 : a_alter T g x v = -1 := by unfold a_alter; rw [if_neg (by rw [show altOk T g x v = false from by simp [altOk, c_2]]; decide)]
    have e1 : s_alter T g x v = T := by unfold s_alter; rw [if_neg (by rw [show altOk T g x v = false from by simp [altOk, c_2]]; decide)]
    rw [e0, e1] at hQ
    try dsimp only at hQ
    exact hQ _ ⟨hB, ⟨hT.1, hT.2.1, hT.2.2.1, hT.2.2.2⟩, hok, hU, hMx, hP, hS, hG, hI, hK, hH⟩ sm.rf
  · skip
    have hr_j := c_2
    obtain ⟨j, ja, rfl⟩ := isGv_t (by omega) c_2
    have cl_j : (nI j).toNatClampNeg = j := nI_clamp (by omega)
    refine w_iload_n (n := 9) O dX6_alter_8 rfl rfl rfl ?_
    refine w_iconst (n := 10) O dX6_alter_9 (v := (nI 0)) (by decide) rfl ?_
    refine w_iconst (n := 11) O dX6_alter_10 (v := (nI 5)) (by decide) rfl ?_
    refine w_cS (n := 14) (ro := some (.int (bI (wIn (x) (nI (0)) (nI (5)))))) (R := fun mM' => mM = mM') (st := []) (st1 := [.int (bI (wIn (x) (nI (0)) (nI (5))))]) (As := [.int (x), .int (nI 0), .int (nI 5)]) O dX6_alter_11 ul_X6_66 um_X6_within (f_X6_within hW ⟨rfl, rfl⟩) rfl rfl rfl (by decide) (Nat.le_of_ble_eq_true rfl) rfl (fun mhM_3 hM_3 => ?_)
    subst hM_3
    refine w_if_neB (n := 17) (tgt := 19) O dX6_alter_14 (by decide) rfl (fun c_4 => ?_) (fun c_4 => ?_)
    · skip
      have hr_k := c_4
      obtain ⟨k, ka, kb, rfl⟩ := wIn_t (by omega) c_4 (by omega)
      have cl_k : (nI k).toNatClampNeg = k := nI_clamp (by omega)
      have hgl := hig_le k
      refine w_iload_n (n := 20) O dX6_alter_19 rfl rfl rfl ?_
      refine w_iconst (n := 21) O dX6_alter_20 (v := (nI 0)) (by decide) rfl ?_
      refine w_gets (n := 24) O dX6_alter_21 (gz_HIG hW O) uf_X6_159 rfl ?_
      refine w_iload_n (n := 25) O dX6_alter_24 rfl rfl rfl ?_
      refine w_tald (n := 26) O dX6_alter_25 (gz_HIGt hW O) (by omega) (by decide) rfl ?_
      refine w_cS (n := 29) (ro := some (.int (bI (wIn (v) (nI (0)) (nI (gb_hig (k))))))) (R := fun mM' => mM = mM') (st := []) (st1 := [.int (bI (wIn (v) (nI (0)) (nI (gb_hig (k)))))]) (As := [.int (v), .int (nI 0), .int (nI (gb_hig (k)))]) O dX6_alter_26 ul_X6_66 um_X6_within (f_X6_within hW ⟨rfl, rfl⟩) rfl rfl rfl (by decide) (Nat.le_of_ble_eq_true rfl) rfl (fun mhM_5 hM_5 => ?_)
      subst hM_5
      refine w_if_neB (n := 32) (tgt := 34) O dX6_alter_29 (by decide) rfl (fun c_6 => ?_) (fun c_6 => ?_)
      · skip
        have hr_q := c_6
        obtain ⟨q, qa, qb, rfl⟩ := wIn_t (by omega) c_6 (by omega)
        have cl_q : (nI q).toNatClampNeg = q := nI_clamp (by omega)
        refine w_aload_n (n := 35) O dX6_alter_34 rfl rfl rfl ?_
        refine w_getf (n := 38) O 0 dX6_alter_35 (by omega) hB rfl (by decide) uX6 uf_X6_10 rfl rfl ?_
        refine w_iload_n (n := 39) O dX6_alter_38 rfl rfl rfl ?_
        refine w_iload_n (n := 40) O dX6_alter_39 rfl rfl rfl ?_
        refine w_cV (n := 43) (ro := some (.int (nI (T.1 (j * 6 + k))))) (R := fun mM' => mM = mM') (st := []) (st1 := [.int (nI (T.1 (j * 6 + k)))]) (As := [.int (nI (j)), .int (nI (k))]) (b := 1) O dX6_alter_40 ul_X6_114 um_X5_trait (f_X5_trait (T := T) hW ⟨hT.1, hT.2.1, hT.2.2.1, hT.2.2.2⟩ (by omega) (by omega) ⟨rfl, rfl⟩) rfl (by omega) hT.1 rfl rfl rfl rfl (by decide) (Nat.le_of_ble_eq_true rfl) rfl (fun mhM_7 hM_7 => ?_)
        subst hM_7
        refine w_istore (n := 45) (lv' := [(4, .int (nI (T.1 (j * 6 + k)))), (0, .ref (gb_ad G 0)), (1, .int (nI (j))), (2, .int (nI (k))), (3, .int (nI (q)))]) O dX6_alter_43 (by decide) rfl rfl ?_
        refine w_aload_n (n := 46) O dX6_alter_45 rfl rfl rfl ?_
        refine w_getf (n := 49) O 0 dX6_alter_46 (by omega) hB rfl (by decide) uX6 uf_X6_10 rfl rfl ?_
        refine w_iload_n (n := 50) O dX6_alter_49 rfl rfl rfl ?_
        refine w_iload_n (n := 51) O dX6_alter_50 rfl rfl rfl ?_
        refine w_iload_n (n := 52) O dX6_alter_51 rfl rfl rfl ?_
        refine w_cV (n := 55) (ro := none) (R := fun mM' => isT G mM' (1) (upN T.1 (j * 6 + k) q, T.2) ∧ sm mM mM' (1) (1 + 3)) (st := []) (st1 := []) (As := [.int (nI (j)), .int (nI (k)), .int (nI (q))]) (b := 1) O dX6_alter_52 ul_X6_162 um_X5_setTrait (f_X5_setTrait (T := T) hW ⟨hT.1, hT.2.1, hT.2.2.1, hT.2.2.2⟩ (by omega) (by omega) (fun M' h1 h2 => ⟨rfl, h1, h2⟩)) rfl (by omega) hT.1 rfl rfl rfl rfl (by omega) (Nat.le_of_ble_eq_true rfl) rfl (fun mhM_8 hM_8 => ?_)
        obtain ⟨hThM_8, hshM_8⟩ := hM_8
        refine w_iload (n := 57) O dX6_alter_55 rfl rfl ?_
        refine w_iret O dX6_alter_57 ?_
        have e0 : a_alter T (nI j) (nI k) (nI q) = (nI (T.1 (j * 6 + k))) := by unfold a_alter; rw [if_pos (by unfold altOk; rw [cl_k, hr_q, hr_j, hr_k]; rfl), cl_j, cl_k]
        have e1 : s_alter T (nI j) (nI k) (nI q) = (upN T.1 (j * 6 + k) q, T.2) := by unfold s_alter; rw [if_pos (by unfold altOk; rw [cl_k, hr_q, hr_j, hr_k]; rfl), cl_j, cl_k, cl_q]
        rw [e0, e1] at hQ
        try dsimp only at hQ
        exact hQ _ ⟨((hshM_8 (0) (by omega)).trans hB), ⟨hThM_8.1, hThM_8.2.1, hThM_8.2.2.1, hThM_8.2.2.2⟩, ⟨okT_tr ok (by omega) (by omega) qb, hok.2⟩, (hU.kp (kp_sm hshM_8 (by omega))), (hMx.kp (kp_sm hshM_8 (by omega))), (hP.kp (kp_sm hshM_8 (by omega))), (hS.kp (kp_sm hshM_8 (by omega))), (hG.kp (kp_sm hshM_8 (by omega))), (hI.kp (kp_sm hshM_8 (by omega))), ((hshM_8 (39) (by omega)).trans hK), (hH.kp (kp_sm hshM_8 (by omega)))⟩ (sm.rf.tr (hshM_8.mono (by omega) (by omega)))
      · skip
        refine w_iconst (n := 33) O dX6_alter_32 (v := (-1)) (by decide) rfl ?_
        refine w_iret O dX6_alter_33 ?_
        have e0 : a_alter T (nI j) (nI k) v = -1 := by unfold a_alter; rw [if_neg (by rw [show altOk T (nI j) (nI k) v = false from by unfold altOk; rw [cl_k, c_6]; simp]; decide)]
        have e1 : s_alter T (nI j) (nI k) v = T := by unfold s_alter; rw [if_neg (by rw [show altOk T (nI j) (nI k) v = false from by unfold altOk; rw [cl_k, c_6]; simp]; decide)]
        rw [e0, e1] at hQ
        try dsimp only at hQ
        exact hQ _ ⟨hB, ⟨hT.1, hT.2.1, hT.2.2.1, hT.2.2.2⟩, hok, hU, hMx, hP, hS, hG, hI, hK, hH⟩ sm.rf
    · skip
      refine w_iconst (n := 18) O dX6_alter_17 (v := (-1)) (by decide) rfl ?_
      refine w_iret O dX6_alter_18 ?_
      have e0 : a_alter T (nI j) x v = -1 := by unfold a_alter; rw [if_neg (by rw [show altOk T (nI j) x v = false from by simp [altOk, c_4]]; decide)]
      have e1 : s_alter T (nI j) x v = T := by unfold s_alter; rw [if_neg (by rw [show altOk T (nI j) x v = false from by simp [altOk, c_4]]; decide)]
      rw [e0, e1] at hQ
      try dsimp only at hQ
      exact hQ _ ⟨hB, ⟨hT.1, hT.2.1, hT.2.2.1, hT.2.2.2⟩, hok, hU, hMx, hP, hS, hG, hI, hK, hH⟩ sm.rf
set_option maxRecDepth 100000 in
set_option maxHeartbeats 4000000 in
theorem f_X6_add {G : gb_G} (hW : gW G) {Q : Option Value → gb_M → Prop} {mM : gb_M} {T : Tw} {im : Nat → Tw} {kp : Nat → Bool} {bs : Nat → Nat} {ln fa : Nat} {st sf : Nat → Nat} {sn : Nat} {sh : Sh} {sc : Nat → Nat → Int32} {tn : Nat} (hC : isCW G mM T im kp bs ln fa st sf sn sh sc tn) {m v : Int32}  (hQ : ∀ M', isCW G M' (s_add T m v) im kp bs ln fa st sf sn sh sc tn → sm mM M' 0 48 → Q (some (.int (a_add T m v))) M') : Fn G 1 yX6_add cX6_add 4 (some .int) [.ref (gb_ad G 0), .int (m), .int (v)] mM Q := by
  obtain ⟨hB, hT, hok, hU, hMx, hP, hS, hG, hI, hK, hH⟩ := hC
  have ok := hok.1
  have hn4 := ok.1
  have hst9 := hok.2.1
  have hln := hok.2.2.2.1
  have hsn6 := hok.2.2.2.2.2.2.1
  have hN := hW.2.2.1
  refine Fn.of hW.1 [(0, .ref (gb_ad G 0)), (1, .int (m)), (2, .int (v))] (by decide) (Nat.le_of_ble_eq_true rfl) rfl ?_
  intro X O
  refine w_iload_n (n := 1) O dX6_add_0 rfl rfl rfl ?_
  refine w_iconst (n := 2) O dX6_add_1 (v := (nI 0)) (by decide) rfl ?_
  refine w_iconst (n := 3) O dX6_add_2 (v := (nI 2)) (by decide) rfl ?_
  refine w_cS (n := 6) (ro := some (.int (bI (wIn (m) (nI (0)) (nI (2)))))) (R := fun mM' => mM = mM') (st := []) (st1 := [.int (bI (wIn (m) (nI (0)) (nI (2))))]) (As := [.int (m), .int (nI 0), .int (nI 2)]) O dX6_add_3 ul_X6_66 um_X6_within (f_X6_within hW ⟨rfl, rfl⟩) rfl rfl rfl (by decide) (Nat.le_of_ble_eq_true rfl) rfl (fun mhM_1 hM_1 => ?_)
  subst hM_1
  refine w_if_eqB (n := 9) (tgt := 19) O dX6_add_6 (by decide) rfl (fun c_2 => ?_) (fun c_2 => ?_)
  · skip
    refine w_iconst (n := 20) O dX6_add_19 (v := (-1)) (by decide) rfl ?_
    refine w_iret O dX6_add_20 ?_
    have e0 : a_add T m v = -1 := by unfold a_add; rw [if_neg (by rw [show addOk m v = false from by simp [addOk, c_2]]; decide)]
    have e1 : s_add T m v = T := by unfold s_add; rw [if_neg (by rw [show addOk m v = false from by simp [addOk, c_2]]; decide)]
    rw [e0, e1] at hQ
    try dsimp only at hQ
    exact hQ _ ⟨hB, ⟨hT.1, hT.2.1, hT.2.2.1, hT.2.2.2⟩, hok, hU, hMx, hP, hS, hG, hI, hK, hH⟩ sm.rf
  · skip
    have hr_j := c_2
    obtain ⟨j, ja, jb, rfl⟩ := wIn_t (by omega) c_2 (by omega)
    have cl_j : (nI j).toNatClampNeg = j := nI_clamp (by omega)
    refine w_iload_n (n := 10) O dX6_add_9 rfl rfl rfl ?_
    refine w_iconst (n := 11) O dX6_add_10 (v := (nI 0)) (by decide) rfl ?_
    refine w_bipush (n := 13) O dX6_add_11 (v := (nI 40)) (by decide) rfl ?_
    refine w_cS (n := 16) (ro := some (.int (bI (wIn (v) (nI (0)) (nI (40)))))) (R := fun mM' => mM = mM') (st := []) (st1 := [.int (bI (wIn (v) (nI (0)) (nI (40))))]) (As := [.int (v), .int (nI 0), .int (nI 40)]) O dX6_add_13 ul_X6_66 um_X6_within (f_X6_within hW ⟨rfl, rfl⟩) rfl rfl rfl (by decide) (Nat.le_of_ble_eq_true rfl) rfl (fun mhM_3 hM_3 => ?_)
    subst hM_3
    refine w_if_neB (n := 19) (tgt := 21) O dX6_add_16 (by decide) rfl (fun c_4 => ?_) (fun c_4 => ?_)
    · skip
      have hr_q := c_4
      obtain ⟨q, qa, qb, rfl⟩ := wIn_t (by omega) c_4 (by omega)
      have cl_q : (nI q).toNatClampNeg = q := nI_clamp (by omega)
      refine w_aload_n (n := 22) O dX6_add_21 rfl rfl rfl ?_
      refine w_getf (n := 25) O 0 dX6_add_22 (by omega) hB rfl (by decide) uX6 uf_X6_10 rfl rfl ?_
      refine w_getf (n := 28) O 1 dX6_add_25 (by omega) hT.1 rfl (by decide) uX5 uf_X6_124 rfl rfl ?_
      refine w_iload_n (n := 29) O dX6_add_28 rfl rfl rfl ?_
      refine w_ialdN (n := 30) O dX6_add_29 hW.2.1 (by omega) hT.2.2.1 (by omega) (by decide) rfl ?_
      refine w_istore_n (n := 31) (lv' := [(3, .int (nI (T.2.1 (j)))), (0, .ref (gb_ad G 0)), (1, .int (nI (j))), (2, .int (nI (q)))]) O dX6_add_30 rfl (by decide) rfl rfl ?_
      refine w_aload_n (n := 32) O dX6_add_31 rfl rfl rfl ?_
      refine w_getf (n := 35) O 0 dX6_add_32 (by omega) hB rfl (by decide) uX6 uf_X6_10 rfl rfl ?_
      refine w_getf (n := 38) O 1 dX6_add_35 (by omega) hT.1 rfl (by decide) uX5 uf_X6_124 rfl rfl ?_
      refine w_iload_n (n := 39) O dX6_add_38 rfl rfl rfl ?_
      refine w_iload_n (n := 40) O dX6_add_39 rfl rfl rfl ?_
      refine w_iastN (n := 41) O dX6_add_40 hW.2.1 (by omega) hT.2.2.1 (by omega) (by decide) rfl ?_
      refine w_iload_n (n := 42) O dX6_add_41 rfl rfl rfl ?_
      refine w_iret O dX6_add_42 ?_
      have e0 : a_add T (nI j) (nI q) = (nI (T.2.1 (j))) := by unfold a_add; rw [if_pos (by unfold addOk; rw [hr_j, hr_q]; rfl), cl_j]
      have e1 : s_add T (nI j) (nI q) = (T.1, upN T.2.1 j q, T.2.2) := by unfold s_add; rw [if_pos (by unfold addOk; rw [hr_j, hr_q]; rfl), cl_j, cl_q]
      rw [e0, e1] at hQ
      try dsimp only at hQ
      exact hQ _ ⟨((va_up_ne _ _ (by decide)).trans hB), ⟨((va_up_ne _ _ (by decide)).trans hT.1), ((va_up_ne _ _ (by decide)).trans hT.2.1), (va_up_self _ _ _), ((va_up_ne _ _ (by decide)).trans hT.2.2.2)⟩, ⟨okT_ad ok qb, hok.2⟩, (hU.kp (kp_up (by omega))), (hMx.kp (kp_up (by omega))), (hP.kp (kp_up (by omega))), (hS.kp (kp_up (by omega))), (hG.kp (kp_up (by omega))), (hI.kp (kp_up (by omega))), ((va_up_ne _ _ (by decide)).trans hK), (hH.kp (kp_up (by omega)))⟩ (sm.rf.up (by omega) (by omega))
    · skip
      refine w_iconst (n := 20) O dX6_add_19 (v := (-1)) (by decide) rfl ?_
      refine w_iret O dX6_add_20 ?_
      have e0 : a_add T (nI j) v = -1 := by unfold a_add; rw [if_neg (by rw [show addOk (nI j) v = false from by simp [addOk, c_4]]; decide)]
      have e1 : s_add T (nI j) v = T := by unfold s_add; rw [if_neg (by rw [show addOk (nI j) v = false from by simp [addOk, c_4]]; decide)]
      rw [e0, e1] at hQ
      try dsimp only at hQ
      exact hQ _ ⟨hB, ⟨hT.1, hT.2.1, hT.2.2.1, hT.2.2.2⟩, hok, hU, hMx, hP, hS, hG, hI, hK, hH⟩ sm.rf
set_option maxRecDepth 100000 in
set_option maxHeartbeats 4000000 in
theorem f_X6_ask {G : gb_G} (hW : gW G) {Q : Option Value → gb_M → Prop} {mM : gb_M} {T : Tw} {im : Nat → Tw} {kp : Nat → Bool} {bs : Nat → Nat} {ln fa : Nat} {st sf : Nat → Nat} {sn : Nat} {sh : Sh} {sc : Nat → Nat → Int32} {tn : Nat} (hC : isCW G mM T im kp bs ln fa st sf sn sh sc tn) {x v : Int32}  (hQ : ∀ M', isCW G M' (s_ask T x v) im kp bs ln fa st sf sn sh sc tn → sm mM M' 0 48 → Q (some (.int (a_ask T x v))) M') : Fn G 1 yX6_ask cX6_ask 4 (some .int) [.ref (gb_ad G 0), .int (x), .int (v)] mM Q := by
  obtain ⟨hB, hT, hok, hU, hMx, hP, hS, hG, hI, hK, hH⟩ := hC
  have ok := hok.1
  have hn4 := ok.1
  have hst9 := hok.2.1
  have hln := hok.2.2.2.1
  have hsn6 := hok.2.2.2.2.2.2.1
  have hN := hW.2.2.1
  refine Fn.of hW.1 [(0, .ref (gb_ad G 0)), (1, .int (x)), (2, .int (v))] (by decide) (Nat.le_of_ble_eq_true rfl) rfl ?_
  intro X O
  refine w_iload_n (n := 1) O dX6_ask_0 rfl rfl rfl ?_
  refine w_if_ne (n := 4) (tgt := 32) O dX6_ask_1 (by decide) rfl (fun c_1 => ?_) (fun c_1 => ?_)
  · skip
    refine w_iload_n (n := 33) O dX6_ask_32 rfl rfl rfl ?_
    refine w_iconst (n := 34) O dX6_ask_33 (v := (nI 1)) (by decide) rfl ?_
    refine w_icmp_ne (n := 37) (tgt := 65) O dX6_ask_34 (by decide) rfl (fun c_2 => ?_) (fun c_2 => ?_)
    · skip
      refine w_iconst (n := 66) O dX6_ask_65 (v := (-1)) (by decide) rfl ?_
      refine w_iret O dX6_ask_66 ?_
      have e0 : a_ask T x v = -1 := by unfold a_ask; rw [if_neg (fun q => c_1 q.1), if_neg (fun q => c_2 q.1)]
      have e1 : s_ask T x v = T := by unfold s_ask; rw [if_neg (fun q => c_1 q.1), if_neg (fun q => c_2 q.1)]
      rw [e0, e1] at hQ
      try dsimp only at hQ
      exact hQ _ ⟨hB, ⟨hT.1, hT.2.1, hT.2.2.1, hT.2.2.2⟩, hok, hU, hMx, hP, hS, hG, hI, hK, hH⟩ sm.rf
    · skip
      refine w_iload_n (n := 38) O dX6_ask_37 rfl rfl rfl ?_
      refine w_iconst (n := 39) O dX6_ask_38 (v := (nI 0)) (by decide) rfl ?_
      refine w_bipush (n := 41) O dX6_ask_39 (v := (nI 10)) (by decide) rfl ?_
      refine w_cS (n := 44) (ro := some (.int (bI (wIn (v) (nI (0)) (nI (10)))))) (R := fun mM' => mM = mM') (st := []) (st1 := [.int (bI (wIn (v) (nI (0)) (nI (10))))]) (As := [.int (v), .int (nI 0), .int (nI 10)]) O dX6_ask_41 ul_X6_66 um_X6_within (f_X6_within hW ⟨rfl, rfl⟩) rfl rfl rfl (by decide) (Nat.le_of_ble_eq_true rfl) rfl (fun mhM_3 hM_3 => ?_)
      subst hM_3
      refine w_if_eqB (n := 47) (tgt := 65) O dX6_ask_44 (by decide) rfl (fun c_4 => ?_) (fun c_4 => ?_)
      · skip
        refine w_iconst (n := 66) O dX6_ask_65 (v := (-1)) (by decide) rfl ?_
        refine w_iret O dX6_ask_66 ?_
        have e0 : a_ask T x v = -1 := by unfold a_ask; rw [if_neg (fun q => c_1 q.1), if_neg (fun q => by rw [c_4] at q; exact absurd q.2 (by decide))]
        have e1 : s_ask T x v = T := by unfold s_ask; rw [if_neg (fun q => c_1 q.1), if_neg (fun q => by rw [c_4] at q; exact absurd q.2 (by decide))]
        rw [e0, e1] at hQ
        try dsimp only at hQ
        exact hQ _ ⟨hB, ⟨hT.1, hT.2.1, hT.2.2.1, hT.2.2.2⟩, hok, hU, hMx, hP, hS, hG, hI, hK, hH⟩ sm.rf
      · skip
        have hr_q := c_4
        obtain ⟨q, qa, qb, rfl⟩ := wIn_t (by omega) c_4 (by omega)
        have cl_q : (nI q).toNatClampNeg = q := nI_clamp (by omega)
        refine w_aload_n (n := 48) O dX6_ask_47 rfl rfl rfl ?_
        refine w_getf (n := 51) O 0 dX6_ask_48 (by omega) hB rfl (by decide) uX6 uf_X6_10 rfl rfl ?_
        refine w_getf (n := 54) O 5 dX6_ask_51 (by omega) hT.1 rfl (by decide) uX5 uf_X6_100 rfl rfl ?_
        refine w_istore_n (n := 55) (lv' := [(3, .int (nI (T.2.2.2.2.2.1))), (0, .ref (gb_ad G 0)), (1, .int (x)), (2, .int (nI (q)))]) O dX6_ask_54 rfl (by decide) rfl rfl ?_
        refine w_aload_n (n := 56) O dX6_ask_55 rfl rfl rfl ?_
        refine w_getf (n := 59) O 0 dX6_ask_56 (by omega) hB rfl (by decide) uX6 uf_X6_10 rfl rfl ?_
        refine w_iload_n (n := 60) O dX6_ask_59 rfl rfl rfl ?_
        refine w_putf (n := 63) (fs' := [.ref (gb_ad G 2), .ref (gb_ad G 3), .ref (gb_ad G 4), .int (nI (T.2.2.2.1)), .int (nI (T.2.2.2.2.1)), .int (nI (q)), .int (nI (T.2.2.2.2.2.2))]) O 5 dX6_ask_60 (by omega) hT.1 rfl (by decide) uX5 uf_X6_100 tyX5 tyX5_ok nmX5 rfl rfl rfl (Nat.le_of_ble_eq_true rfl) rfl rfl ?_
        refine w_iload_n (n := 64) O dX6_ask_63 rfl rfl rfl ?_
        refine w_iret O dX6_ask_64 ?_
        have e0 : a_ask T x (nI q) = (nI (T.2.2.2.2.2.1)) := by unfold a_ask; rw [if_neg (fun q => c_1 q.1), if_pos ⟨c_2, hr_q⟩]
        have e1 : s_ask T x (nI q) = (T.1, T.2.1, T.2.2.1, T.2.2.2.1, T.2.2.2.2.1, q, T.2.2.2.2.2.2) := by unfold s_ask; rw [if_neg (fun q => c_1 q.1), if_pos ⟨c_2, hr_q⟩, cl_q]
        rw [e0, e1] at hQ
        try dsimp only at hQ
        exact hQ _ ⟨((va_up_ne _ _ (by decide)).trans hB), ⟨(va_up_self _ _ _), ((va_up_ne _ _ (by decide)).trans hT.2.1), ((va_up_ne _ _ (by decide)).trans hT.2.2.1), ((va_up_ne _ _ (by decide)).trans hT.2.2.2)⟩, ⟨⟨ok.1, ok.2.1, ok.2.2.1, ok.2.2.2.1, qb, ok.2.2.2.2.2⟩, hok.2⟩, (hU.kp (kp_up (by omega))), (hMx.kp (kp_up (by omega))), (hP.kp (kp_up (by omega))), (hS.kp (kp_up (by omega))), (hG.kp (kp_up (by omega))), (hI.kp (kp_up (by omega))), ((va_up_ne _ _ (by decide)).trans hK), (hH.kp (kp_up (by omega)))⟩ (sm.rf.up (by omega) (by omega))
  · skip
    refine w_iload_n (n := 5) O dX6_ask_4 rfl rfl rfl ?_
    refine w_iconst (n := 6) O dX6_ask_5 (v := (nI 3)) (by decide) rfl ?_
    refine w_bipush (n := 8) O dX6_ask_6 (v := (nI 12)) (by decide) rfl ?_
    refine w_cS (n := 11) (ro := some (.int (bI (wIn (v) (nI (3)) (nI (12)))))) (R := fun mM' => mM = mM') (st := []) (st1 := [.int (bI (wIn (v) (nI (3)) (nI (12))))]) (As := [.int (v), .int (nI 3), .int (nI 12)]) O dX6_ask_8 ul_X6_66 um_X6_within (f_X6_within hW ⟨rfl, rfl⟩) rfl rfl rfl (by decide) (Nat.le_of_ble_eq_true rfl) rfl (fun mhM_5 hM_5 => ?_)
    subst hM_5
    refine w_if_eqB (n := 14) (tgt := 32) O dX6_ask_11 (by decide) rfl (fun c_6 => ?_) (fun c_6 => ?_)
    · skip
      refine w_iload_n (n := 33) O dX6_ask_32 rfl rfl rfl ?_
      refine w_iconst (n := 34) O dX6_ask_33 (v := (nI 1)) (by decide) rfl ?_
      refine w_icmp_ne (n := 37) (tgt := 65) O dX6_ask_34 (by decide) rfl (fun c_7 => ?_) (fun c_7 => ?_)
      · skip
        refine w_iconst (n := 66) O dX6_ask_65 (v := (-1)) (by decide) rfl ?_
        refine w_iret O dX6_ask_66 ?_
        have e0 : a_ask T x v = -1 := by unfold a_ask; rw [if_neg (fun q => by rw [c_6] at q; exact absurd q.2 (by decide)), if_neg (fun q => c_7 q.1)]
        have e1 : s_ask T x v = T := by unfold s_ask; rw [if_neg (fun q => by rw [c_6] at q; exact absurd q.2 (by decide)), if_neg (fun q => c_7 q.1)]
        rw [e0, e1] at hQ
        try dsimp only at hQ
        exact hQ _ ⟨hB, ⟨hT.1, hT.2.1, hT.2.2.1, hT.2.2.2⟩, hok, hU, hMx, hP, hS, hG, hI, hK, hH⟩ sm.rf
      · skip
        refine w_iload_n (n := 38) O dX6_ask_37 rfl rfl rfl ?_
        refine w_iconst (n := 39) O dX6_ask_38 (v := (nI 0)) (by decide) rfl ?_
        refine w_bipush (n := 41) O dX6_ask_39 (v := (nI 10)) (by decide) rfl ?_
        refine w_cS (n := 44) (ro := some (.int (bI (wIn (v) (nI (0)) (nI (10)))))) (R := fun mM' => mM = mM') (st := []) (st1 := [.int (bI (wIn (v) (nI (0)) (nI (10))))]) (As := [.int (v), .int (nI 0), .int (nI 10)]) O dX6_ask_41 ul_X6_66 um_X6_within (f_X6_within hW ⟨rfl, rfl⟩) rfl rfl rfl (by decide) (Nat.le_of_ble_eq_true rfl) rfl (fun mhM_8 hM_8 => ?_)
        subst hM_8
        refine w_if_eqB (n := 47) (tgt := 65) O dX6_ask_44 (by decide) rfl (fun c_9 => ?_) (fun c_9 => ?_)
        · skip
          refine w_iconst (n := 66) O dX6_ask_65 (v := (-1)) (by decide) rfl ?_
          refine w_iret O dX6_ask_66 ?_
          have e0 : a_ask T x v = -1 := by unfold a_ask; rw [if_neg (fun q => by rw [c_6] at q; exact absurd q.2 (by decide)), if_neg (fun q => by rw [c_9] at q; exact absurd q.2 (by decide))]
          have e1 : s_ask T x v = T := by unfold s_ask; rw [if_neg (fun q => by rw [c_6] at q; exact absurd q.2 (by decide)), if_neg (fun q => by rw [c_9] at q; exact absurd q.2 (by decide))]
          rw [e0, e1] at hQ
          try dsimp only at hQ
          exact hQ _ ⟨hB, ⟨hT.1, hT.2.1, hT.2.2.1, hT.2.2.2⟩, hok, hU, hMx, hP, hS, hG, hI, hK, hH⟩ sm.rf
        · skip
          have hr_q := c_9
          obtain ⟨q, qa, qb, rfl⟩ := wIn_t (by omega) c_9 (by omega)
          have cl_q : (nI q).toNatClampNeg = q := nI_clamp (by omega)
          refine w_aload_n (n := 48) O dX6_ask_47 rfl rfl rfl ?_
          refine w_getf (n := 51) O 0 dX6_ask_48 (by omega) hB rfl (by decide) uX6 uf_X6_10 rfl rfl ?_
          refine w_getf (n := 54) O 5 dX6_ask_51 (by omega) hT.1 rfl (by decide) uX5 uf_X6_100 rfl rfl ?_
          refine w_istore_n (n := 55) (lv' := [(3, .int (nI (T.2.2.2.2.2.1))), (0, .ref (gb_ad G 0)), (1, .int (x)), (2, .int (nI (q)))]) O dX6_ask_54 rfl (by decide) rfl rfl ?_
          refine w_aload_n (n := 56) O dX6_ask_55 rfl rfl rfl ?_
          refine w_getf (n := 59) O 0 dX6_ask_56 (by omega) hB rfl (by decide) uX6 uf_X6_10 rfl rfl ?_
          refine w_iload_n (n := 60) O dX6_ask_59 rfl rfl rfl ?_
          refine w_putf (n := 63) (fs' := [.ref (gb_ad G 2), .ref (gb_ad G 3), .ref (gb_ad G 4), .int (nI (T.2.2.2.1)), .int (nI (T.2.2.2.2.1)), .int (nI (q)), .int (nI (T.2.2.2.2.2.2))]) O 5 dX6_ask_60 (by omega) hT.1 rfl (by decide) uX5 uf_X6_100 tyX5 tyX5_ok nmX5 rfl rfl rfl (Nat.le_of_ble_eq_true rfl) rfl rfl ?_
          refine w_iload_n (n := 64) O dX6_ask_63 rfl rfl rfl ?_
          refine w_iret O dX6_ask_64 ?_
          exact absurd (c_7.symm.trans c_1) (by decide)
    · skip
      have hr_q := c_6
      obtain ⟨q, qa, qb, rfl⟩ := wIn_t (by omega) c_6 (by omega)
      have cl_q : (nI q).toNatClampNeg = q := nI_clamp (by omega)
      refine w_aload_n (n := 15) O dX6_ask_14 rfl rfl rfl ?_
      refine w_getf (n := 18) O 0 dX6_ask_15 (by omega) hB rfl (by decide) uX6 uf_X6_10 rfl rfl ?_
      refine w_getf (n := 21) O 4 dX6_ask_18 (by omega) hT.1 rfl (by decide) uX5 uf_X6_97 rfl rfl ?_
      refine w_istore_n (n := 22) (lv' := [(3, .int (nI (T.2.2.2.2.1))), (0, .ref (gb_ad G 0)), (1, .int (x)), (2, .int (nI (q)))]) O dX6_ask_21 rfl (by decide) rfl rfl ?_
      refine w_aload_n (n := 23) O dX6_ask_22 rfl rfl rfl ?_
      refine w_getf (n := 26) O 0 dX6_ask_23 (by omega) hB rfl (by decide) uX6 uf_X6_10 rfl rfl ?_
      refine w_iload_n (n := 27) O dX6_ask_26 rfl rfl rfl ?_
      refine w_putf (n := 30) (fs' := [.ref (gb_ad G 2), .ref (gb_ad G 3), .ref (gb_ad G 4), .int (nI (T.2.2.2.1)), .int (nI (q)), .int (nI (T.2.2.2.2.2.1)), .int (nI (T.2.2.2.2.2.2))]) O 4 dX6_ask_27 (by omega) hT.1 rfl (by decide) uX5 uf_X6_97 tyX5 tyX5_ok nmX5 rfl rfl rfl (Nat.le_of_ble_eq_true rfl) rfl rfl ?_
      refine w_iload_n (n := 31) O dX6_ask_30 rfl rfl rfl ?_
      refine w_iret O dX6_ask_31 ?_
      have e0 : a_ask T x (nI q) = (nI (T.2.2.2.2.1)) := by unfold a_ask; rw [if_pos ⟨c_1, hr_q⟩]
      have e1 : s_ask T x (nI q) = (T.1, T.2.1, T.2.2.1, T.2.2.2.1, q, T.2.2.2.2.2) := by unfold s_ask; rw [if_pos ⟨c_1, hr_q⟩, cl_q]
      rw [e0, e1] at hQ
      try dsimp only at hQ
      exact hQ _ ⟨((va_up_ne _ _ (by decide)).trans hB), ⟨(va_up_self _ _ _), ((va_up_ne _ _ (by decide)).trans hT.2.1), ((va_up_ne _ _ (by decide)).trans hT.2.2.1), ((va_up_ne _ _ (by decide)).trans hT.2.2.2)⟩, ⟨⟨ok.1, ok.2.1, ok.2.2.1, qb, ok.2.2.2.2⟩, hok.2⟩, (hU.kp (kp_up (by omega))), (hMx.kp (kp_up (by omega))), (hP.kp (kp_up (by omega))), (hS.kp (kp_up (by omega))), (hG.kp (kp_up (by omega))), (hI.kp (kp_up (by omega))), ((va_up_ne _ _ (by decide)).trans hK), (hH.kp (kp_up (by omega)))⟩ (sm.rf.up (by omega) (by omega))
set_option maxRecDepth 100000 in
set_option maxHeartbeats 4000000 in
theorem f_X6_ring {G : gb_G} (hW : gW G) {Q : Option Value → gb_M → Prop} {mM : gb_M} {T : Tw} {im : Nat → Tw} {kp : Nat → Bool} {bs : Nat → Nat} {ln fa : Nat} {st sf : Nat → Nat} {sn : Nat} {sh : Sh} {sc : Nat → Nat → Int32} {tn : Nat} (hC : isCW G mM T im kp bs ln fa st sf sn sh sc tn) {x : Int32}  (hQ : ∀ M', isCW G M' (s_ring T x) im kp bs ln fa st sf sn sh sc tn → sm mM M' 0 48 → Q (some (.int (a_ring T x))) M') : Fn G 7 yX6_ring cX6_ring 3 (some .int) [.ref (gb_ad G 0), .int (x)] mM Q := by
  obtain ⟨hB, hT, hok, hU, hMx, hP, hS, hG, hI, hK, hH⟩ := hC
  have ok := hok.1
  have hn4 := ok.1
  have hst9 := hok.2.1
  have hln := hok.2.2.2.1
  have hsn6 := hok.2.2.2.2.2.2.1
  obtain ⟨pa, am, w, hM, hp⟩ := hMx
  have hN := hW.2.2.1
  refine Fn.of hW.1 [(0, .ref (gb_ad G 0)), (1, .int (x))] (by decide) (Nat.le_of_ble_eq_true rfl) rfl ?_
  intro X O
  refine w_iload_n (n := 1) O dX6_ring_0 rfl rfl rfl ?_
  refine w_iconst (n := 2) O dX6_ring_1 (v := (nI 0)) (by decide) rfl ?_
  refine w_bipush (n := 4) O dX6_ring_2 (v := (nI 99)) (by decide) rfl ?_
  refine w_cS (n := 7) (ro := some (.int (bI (wIn (x) (nI (0)) (nI (99)))))) (R := fun mM' => mM = mM') (st := []) (st1 := [.int (bI (wIn (x) (nI (0)) (nI (99))))]) (As := [.int (x), .int (nI 0), .int (nI 99)]) O dX6_ring_4 ul_X6_66 um_X6_within (f_X6_within hW ⟨rfl, rfl⟩) rfl rfl rfl (by decide) (Nat.le_of_ble_eq_true rfl) rfl (fun mhM_1 hM_1 => ?_)
  subst hM_1
  refine w_if_neB (n := 10) (tgt := 12) O dX6_ring_7 (by decide) rfl (fun c_2 => ?_) (fun c_2 => ?_)
  · skip
    have hr_j := c_2
    obtain ⟨j, ja, jb, rfl⟩ := wIn_t (by omega) c_2 (by omega)
    have cl_j : (nI j).toNatClampNeg = j := nI_clamp (by omega)
    refine w_aload_n (n := 13) O dX6_ring_12 rfl rfl rfl ?_
    refine w_getf (n := 16) O 0 dX6_ring_13 (by omega) hB rfl (by decide) uX6 uf_X6_10 rfl rfl ?_
    refine w_getf (n := 19) O 6 dX6_ring_16 (by omega) hT.1 rfl (by decide) uX5 uf_X6_103 rfl rfl ?_
    refine w_iload_n (n := 20) O dX6_ring_19 rfl rfl rfl ?_
    refine w_iaddN (n := 21) O dX6_ring_20 rfl ?_
    refine w_sipush (n := 24) O dX6_ring_21 (v := (nI 1000)) (by decide) rfl ?_
    refine w_icmp_ltN (n := 27) (tgt := 30) O dX6_ring_24 (by omega) (by omega) (by decide) rfl (fun c_3 => ?_) (fun c_3 => ?_)
    · skip
      refine w_iconst (n := 31) O dX6_ring_30 (v := (nI 0)) (by decide) rfl ?_
      refine w_istore_n (n := 32) (lv' := [(2, .int (nI 0)), (0, .ref (gb_ad G 0)), (1, .int (nI (j)))]) O dX6_ring_31 rfl (by decide) rfl rfl ?_
      have LR : ∀ (k : Nat) (i : Nat) (m1 : gb_M) (pa1 am1 : Nat → Nat) (w1 : Nat), j - i = k → i ≤ j → isT G m1 1 (rep tStrike i T) → isM G m1 pa1 am1 w1 → okP pa1 → sm2 mM m1 1 4 9 11 → Wm G X 3 Q 32 [(0, .ref (gb_ad G 0)), (1, .int (nI (j))), (2, .int (nI (i)))] [] m1 := by
        intro k
        induction k using Nat.strongRecOn with
        | ind k ih_LR =>
          intro i m1 pa1 am1 w1 hk hi hT1 hM1 hp1 hs1
          have oki := okT_rep ok i (by omega)
          have hki := (rep_sk T i).1
          refine w_iload_n (n := 33) O dX6_ring_32 rfl rfl rfl ?_
          refine w_iload_n (n := 34) O dX6_ring_33 rfl rfl rfl ?_
          refine w_icmp_geN (n := 37) (tgt := 51) O dX6_ring_34 (by omega) (by omega) (by decide) rfl (fun c_4 => ?_) (fun c_4 => ?_)
          · skip
            refine w_aload_n (n := 52) O dX6_ring_51 rfl rfl rfl ?_
            refine w_aload_n (n := 53) O dX6_ring_52 rfl rfl rfl ?_
            refine w_getf (n := 56) O 0 dX6_ring_53 (by omega) ((hs1 (0) (by omega) (by omega)).trans hB) rfl (by decide) uX6 uf_X6_10 rfl rfl ?_
            refine w_cV (n := 59) (ro := none) (R := fun mM' => ∃ pa' : Nat → Nat, isM G mM' pa' (bAm ((rep tStrike i T))) (bWt ((rep tStrike i T))) ∧ (∀ g, g < ((rep tStrike i T)).2.2.2.1 → pa' g = tGives ((rep tStrike i T)) g) ∧ okP pa' ∧ sm m1 mM' 9 11) (st := []) (st1 := []) (As := [.ref (gb_ad G 1)]) (b := 0) O dX6_ring_56 ul_X6_130 um_X6_cast (f_X6_cast (T := (rep tStrike i T)) hW ((hs1 (0) (by omega) (by omega)).trans hB) ⟨hT1.1, hT1.2.1, hT1.2.2.1, hT1.2.2.2⟩ (by omega) oki (by omega) ⟨hM1.1, hM1.2.1, hM1.2.2⟩ hp1 (fun M' pa' h1 h2 h3 h4 => ⟨rfl, pa', h1, h2, h3, h4⟩)) rfl (by omega) ((hs1 (0) (by omega) (by omega)).trans hB) rfl rfl rfl rfl (by decide) (Nat.le_of_ble_eq_true rfl) rfl (fun mhM_5 hM_5 => ?_)
            obtain ⟨pahM_5, hMhM_5, hghM_5, hphM_5, hshM_5⟩ := hM_5
            refine w_aload_n (n := 60) O dX6_ring_59 rfl rfl rfl ?_
            refine w_getf (n := 63) O 2 dX6_ring_60 (by omega) ((hshM_5 (0) (by omega)).trans ((hs1 (0) (by omega) (by omega)).trans hB)) rfl (by decide) uX6 uf_X6_22 rfl rfl ?_
            refine w_getf (n := 66) O 2 dX6_ring_63 (by omega) hMhM_5.1 rfl (by decide) uX1 uf_X6_136 rfl rfl ?_
            refine w_iret O dX6_ring_66 ?_
            have e0 : a_ring T (nI j) = (nI (bWt ((rep tStrike i T)))) := by unfold a_ring; rw [if_pos hr_j, cl_j, if_pos (by omega), show j = i by omega]
            have e1 : s_ring T (nI j) = rep tStrike i T := by unfold s_ring; rw [cl_j, if_pos ⟨hr_j, by omega⟩, show j = i by omega]
            rw [e0, e1] at hQ
            try dsimp only at hQ
            exact hQ _ ⟨((hshM_5 (0) (by omega)).trans ((hs1 (0) (by omega) (by omega)).trans hB)), ⟨((hshM_5 (1) (by omega)).trans hT1.1), ((hshM_5 (2) (by omega)).trans hT1.2.1), ((hshM_5 (3) (by omega)).trans hT1.2.2.1), ((hshM_5 (4) (by omega)).trans hT1.2.2.2)⟩, ⟨oki, by omega, fun k hk => ⟨(hok.2.2.1 k hk).1, (hok.2.2.1 k hk).2.1, fun q => by rw [(rep_sk T i).2]; exact (hok.2.2.1 k hk).2.2 q⟩, hok.2.2.2⟩, ((hU.kp (kp_sm2 hs1 (by omega) (by omega))).kp (kp_sm hshM_5 (by omega))), ⟨_, _, _, ⟨hMhM_5.1, hMhM_5.2.1, hMhM_5.2.2⟩, hphM_5⟩, ((hP.kp (kp_sm2 hs1 (by omega) (by omega))).kp (kp_sm hshM_5 (by omega))), ((hS.kp (kp_sm2 hs1 (by omega) (by omega))).kp (kp_sm hshM_5 (by omega))), ((hG.kp (kp_sm2 hs1 (by omega) (by omega))).kp (kp_sm hshM_5 (by omega))), ((hI.kp (kp_sm2 hs1 (by omega) (by omega))).kp (kp_sm hshM_5 (by omega))), ((hshM_5 (39) (by omega)).trans ((hs1 (39) (by omega) (by omega)).trans hK)), ((hH.kp (kp_sm2 hs1 (by omega) (by omega))).kp (kp_sm hshM_5 (by omega)))⟩ ((sm.rf.tr (hs1.one (by omega))).tr (hshM_5.mono (by omega) (by omega)))
          · skip
            refine w_aload_n (n := 38) O dX6_ring_37 rfl rfl rfl ?_
            refine w_aload_n (n := 39) O dX6_ring_38 rfl rfl rfl ?_
            refine w_getf (n := 42) O 0 dX6_ring_39 (by omega) ((hs1 (0) (by omega) (by omega)).trans hB) rfl (by decide) uX6 uf_X6_10 rfl rfl ?_
            refine w_cV (n := 45) (ro := none) (R := fun mM' => isT G mM' (1) (tStrike ((rep tStrike i T))) ∧ isMx G mM' ∧ sm2 m1 mM' (1) (1 + 3) 9 11) (st := []) (st1 := []) (As := [.ref (gb_ad G 1)]) (b := 0) O dX6_ring_42 ul_X6_166 um_X6_strikeOnce (f_X6_strikeOnce (T := (rep tStrike i T)) hW ((hs1 (0) (by omega) (by omega)).trans hB) ⟨hT1.1, hT1.2.1, hT1.2.2.1, hT1.2.2.2⟩ (by omega) oki (by omega) ⟨hM1.1, hM1.2.1, hM1.2.2⟩ hp1 (by omega) (fun M' h1 h2 h3 => ⟨rfl, h1, h2, h3⟩)) rfl (by omega) ((hs1 (0) (by omega) (by omega)).trans hB) rfl rfl rfl rfl (by decide) (Nat.le_of_ble_eq_true rfl) rfl (fun mhM_6 hM_6 => ?_)
            obtain ⟨hThM_6, ⟨pahM_6, amhM_6, whM_6, hMhM_6, hphM_6⟩, hshM_6⟩ := hM_6
            refine w_iincN (n := 48) (lv' := [(2, .int (nI (i + 1))), (0, .ref (gb_ad G 0)), (1, .int (nI (j)))]) O dX6_ring_45 rfl (by decide) rfl rfl ?_
            refine w_goto (tgt := 32) O dX6_ring_48 (by decide) ?_
            refine w_lv (lv2 := [(0, .ref (gb_ad G 0)), (1, .int (nI (j))), (2, .int (nI (i + 1)))]) [1, 2, 0] rfl ?_
            exact ih_LR _ (by omega) (i + 1) _ _ _ _ rfl (by omega) (by rw [rep_succ]; exact ⟨hThM_6.1, hThM_6.2.1, hThM_6.2.2.1, hThM_6.2.2.2⟩) ⟨hMhM_6.1, hMhM_6.2.1, hMhM_6.2.2⟩ hphM_6 ((sm2.rf.tr hs1).tr hshM_6)
      refine w_lv (lv2 := [(0, .ref (gb_ad G 0)), (1, .int (nI (j))), (2, .int (nI 0))]) [1, 2, 0] rfl ?_
      exact LR _ 0 mM pa am w rfl (Nat.zero_le _) hT hM hp sm2.rf
    · skip
      refine w_bipush (n := 29) O dX6_ring_27 (v := (-3)) (by decide) rfl ?_
      refine w_iret O dX6_ring_29 ?_
      have e0 : a_ring T (nI j) = -3 := by unfold a_ring; rw [if_pos hr_j, cl_j, if_neg (by omega)]
      have e1 : s_ring T (nI j) = T := by unfold s_ring; rw [if_neg (fun q => by rw [cl_j] at q; omega)]
      rw [e0, e1] at hQ
      try dsimp only at hQ
      exact hQ _ ⟨hB, ⟨hT.1, hT.2.1, hT.2.2.1, hT.2.2.2⟩, hok, hU, ⟨_, _, _, ⟨hM.1, hM.2.1, hM.2.2⟩, hp⟩, hP, hS, hG, hI, hK, hH⟩ sm.rf
  · skip
    refine w_iconst (n := 11) O dX6_ring_10 (v := (-1)) (by decide) rfl ?_
    refine w_iret O dX6_ring_11 ?_
    have e0 : a_ring T x = -1 := by unfold a_ring; rw [if_neg (by rw [c_2]; decide)]
    have e1 : s_ring T x = T := by unfold s_ring; rw [if_neg (fun q => by rw [c_2] at q; exact absurd q.1 (by decide))]
    rw [e0, e1] at hQ
    try dsimp only at hQ
    exact hQ _ ⟨hB, ⟨hT.1, hT.2.1, hT.2.2.1, hT.2.2.2⟩, hok, hU, ⟨_, _, _, ⟨hM.1, hM.2.1, hM.2.2⟩, hp⟩, hP, hS, hG, hI, hK, hH⟩ sm.rf
