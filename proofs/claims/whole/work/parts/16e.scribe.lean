set_option maxRecDepth 100000 in
set_option maxHeartbeats 4000000 in
theorem f_X2_refuse {G : gb_G} (hW : gW G) {Q : Option Value → gb_M → Prop} {mM : gb_M} {fo : Nat} {fp s1 s2 s3 : Nat} {s4 : Bool} (hC : isC G mM fo fp s1 s2 s3 s4) {c a : Nat}  (hQ : ∀ M', isC G M' c a s1 s2 s3 s4 → sm mM M' 14 14 → Q (some (.int (bI false))) M') : Fn G 0 yX2_refuse cX2_refuse 3 (some .boolean) [.ref (gb_ad G 14), .int (nI (c)), .int (nI (a))] mM Q := by
  have hN := hW.2.2.1
  refine Fn.of hW.1 [(0, .ref (gb_ad G 14)), (1, .int (nI (c))), (2, .int (nI (a)))] (by decide) (Nat.le_of_ble_eq_true rfl) rfl ?_
  intro X O
  refine w_aload_n (n := 1) O dX2_refuse_0 rfl rfl rfl ?_
  refine w_iload_n (n := 2) O dX2_refuse_1 rfl rfl rfl ?_
  refine w_putf (n := 5) (fs' := [.ref (gb_ad G 15), .int (nI (c)), .int (nI (fp)), .int (nI (s1)), .int (nI (s2)), .int (nI (s3)), .int (bI (s4))]) O 1 dX2_refuse_2 (by omega) hC rfl (by decide) uX2 uf_X2_18 tyX2 tyX2_ok nmX2 rfl rfl rfl (Nat.le_of_ble_eq_true rfl) rfl rfl ?_
  refine w_aload_n (n := 6) O dX2_refuse_5 rfl rfl rfl ?_
  refine w_iload_n (n := 7) O dX2_refuse_6 rfl rfl rfl ?_
  refine w_putf (n := 10) (fs' := [.ref (gb_ad G 15), .int (nI (c)), .int (nI (a)), .int (nI (s1)), .int (nI (s2)), .int (nI (s3)), .int (bI (s4))]) O 2 dX2_refuse_7 (by omega) (va_up_self _ _ _) rfl (by decide) uX2 uf_X2_22 tyX2 tyX2_ok nmX2 rfl rfl rfl (Nat.le_of_ble_eq_true rfl) rfl rfl ?_
  refine w_iconst (n := 11) O dX2_refuse_10 (v := (nI 0)) (by decide) rfl ?_
  refine w_zret O dX2_refuse_11 (by decide) ?_
  exact hQ _ (va_up_self _ _ _) ((sm.rf.up (by omega) (by omega)).up (by omega) (by omega))
set_option maxRecDepth 100000 in
set_option maxHeartbeats 4000000 in
theorem f_X2_readOn {G : gb_G} (hW : gW G) {Q : Option Value → gb_M → Prop} {mM : gb_M} {bs : Nat → Nat} {ln pl so sa nu : Nat} (hP : isP G mM bs ln pl so sa nu) (hln : ln ≤ 160) (hbs : ∀ k, k < ln → bs k ≤ 127) (hpl : pl ≤ ln) (hsa : sa ≤ 160) (hso : so ≤ 4) {fp s1 s2 s3 : Nat} {s4 : Bool} (hC : isC G mM 0 fp s1 s2 s3 s4)  (hQ : ∀ M' fp', isP G M' bs ln (tkE bs ln pl) (tkS bs ln pl) (tkB bs ln pl) (tkU bs ln pl nu) → isC G M' (aT bs ln pl) fp' s1 s2 s3 s4 → (aT bs ln pl ≠ 0 → fp' = tkB bs ln pl) → sm mM M' 12 14 → Q (some (.int (bI (decide (¬ tkS bs ln pl = 0))))) M') : Fn G 2 yX2_readOn cX2_readOn 2 (some .boolean) [.ref (gb_ad G 14), .ref (gb_ad G 12)] mM Q := by
  have hN := hW.2.2.1
  refine Fn.of hW.1 [(0, .ref (gb_ad G 14)), (1, .ref (gb_ad G 12))] (by decide) (Nat.le_of_ble_eq_true rfl) rfl ?_
  intro X O
  refine w_aload_n (n := 1) O dX2_readOn_0 rfl rfl rfl ?_
  refine w_getf (n := 4) O 1 dX2_readOn_1 (by omega) hC rfl (by decide) uX2 uf_X2_18 rfl rfl ?_
  refine w_if_eqN (n := 7) (tgt := 9) O dX2_readOn_4 (by omega) (by decide) rfl (fun c_1 => ?_) (fun c_1 => absurd rfl c_1)
  refine w_aload_n (n := 10) O dX2_readOn_9 rfl rfl rfl ?_
  refine w_cV (n := 13) (ro := none) (R := fun mM' => isP G mM' bs ln (tkE bs ln pl) (tkS bs ln pl) (tkB bs ln pl) (tkU bs ln pl nu) ∧ sm mM mM' 12 13) (st := []) (st1 := []) (As := []) (b := 12) O dX2_readOn_10 ul_X2_147 um_X4_readToken (f_X4_readToken hW ⟨hP.1, hP.2⟩ hln hbs (by omega) (by omega) (fun M' h1 h2 => ⟨rfl, h1, h2⟩)) rfl (by omega) hP.1 rfl rfl rfl rfl (by decide) (Nat.le_of_ble_eq_true rfl) rfl (fun mhM_4 hM_4 => ?_)
  obtain ⟨hP_2, hs_3⟩ := hM_4
  have hks := tkS_le bs ln pl
  refine w_aload_n (n := 14) O dX2_readOn_13 rfl rfl rfl ?_
  refine w_getf (n := 17) O 3 dX2_readOn_14 (by omega) hP_2.1 rfl (by decide) uX4 uf_X2_46 rfl rfl ?_
  refine w_if_neN (n := 20) (tgt := 32) O dX2_readOn_17 (by omega) (by decide) rfl (fun c_5 => ?_) (fun c_5 => ?_)
  · skip
    refine w_iconst (n := 33) O dX2_readOn_32 (v := (nI 1)) (by decide) rfl ?_
    refine w_goto (tgt := 37) O dX2_readOn_33 (by decide) ?_
    refine w_zret O dX2_readOn_37 (by decide) ?_
    have e1 : aT bs ln pl = 0 := if_neg c_5
    rw [e1, decide_eq_true c_5] at hQ
    exact hQ _ _ ⟨hP_2.1, hP_2.2⟩ ((hs_3 (14) (by omega)).trans hC) (fun q => absurd rfl q) (sm.rf.tr (hs_3.mono (by omega) (by omega)))
  · skip
    refine w_aload_n (n := 21) O dX2_readOn_20 rfl rfl rfl ?_
    refine w_iconst (n := 22) O dX2_readOn_21 (v := (nI 1)) (by decide) rfl ?_
    refine w_aload_n (n := 23) O dX2_readOn_22 rfl rfl rfl ?_
    refine w_getf (n := 26) O 4 dX2_readOn_23 (by omega) hP_2.1 rfl (by decide) uX4 uf_X2_102 rfl rfl ?_
    refine w_cV (n := 29) (ro := some (.int (bI (false)))) (R := fun mM' => isC G mM' 1 (tkB bs ln pl) s1 s2 s3 s4 ∧ sm mhM_4 mM' 14 14) (st := []) (st1 := [.int (bI (false))]) (As := [.int (nI 1), .int (nI (tkB bs ln pl))]) (b := 14) O dX2_readOn_26 ul_X2_60 um_X2_refuse (f_X2_refuse hW ((hs_3 (14) (by omega)).trans hC) (fun M' h1 h2 => ⟨rfl, h1, h2⟩)) rfl (by omega) ((hs_3 (14) (by omega)).trans hC) rfl rfl rfl rfl (by decide) (Nat.le_of_ble_eq_true rfl) rfl (fun mhM_8 hM_8 => ?_)
    obtain ⟨hC_6, hs_7⟩ := hM_8
    refine w_if_eqB (n := 32) (tgt := 36) O dX2_readOn_29 (by decide) rfl (fun c_9 => ?_) (fun c_9 => absurd c_9 (by decide))
    refine w_iconst (n := 37) O dX2_readOn_36 (v := (nI 0)) (by decide) rfl ?_
    refine w_zret O dX2_readOn_37 (by decide) ?_
    have e1 : aT bs ln pl = 1 := if_pos c_5
    rw [e1, decide_eq_false (fun q => q c_5)] at hQ
    exact hQ _ _ ⟨((hs_7 (12) (by omega)).trans hP_2.1), ((hs_7 (13) (by omega)).trans hP_2.2)⟩ hC_6 (fun _ => rfl) ((sm.rf.tr (hs_3.mono (by omega) (by omega))).tr (hs_7.mono (by omega) (by omega)))
set_option maxRecDepth 100000 in
set_option maxHeartbeats 4000000 in
theorem f_X2_readOnF {G : gb_G} (hW : gW G) {Q : Option Value → gb_M → Prop} {mM : gb_M} {fo : Nat} {fp s1 s2 s3 : Nat} {s4 : Bool} (hC : isC G mM fo fp s1 s2 s3 s4) (hfo : ¬ fo = 0) (hf6 : fo ≤ 6)  (hQ : Q (some (.int (bI false))) mM) : Fn G 2 yX2_readOn cX2_readOn 2 (some .boolean) [.ref (gb_ad G 14), .ref (gb_ad G 12)] mM Q := by
  have hN := hW.2.2.1
  refine Fn.of hW.1 [(0, .ref (gb_ad G 14)), (1, .ref (gb_ad G 12))] (by decide) (Nat.le_of_ble_eq_true rfl) rfl ?_
  intro X O
  refine w_aload_n (n := 1) O dX2_readOn_0 rfl rfl rfl ?_
  refine w_getf (n := 4) O 1 dX2_readOn_1 (by omega) hC rfl (by decide) uX2 uf_X2_18 rfl rfl ?_
  refine w_if_eqN (n := 7) (tgt := 9) O dX2_readOn_4 (by omega) (by decide) rfl (fun c_1 => absurd c_1 hfo) (fun c_1 => ?_)
  refine w_iconst (n := 8) O dX2_readOn_7 (v := (nI 0)) (by decide) rfl ?_
  refine w_zret O dX2_readOn_8 (by decide) ?_
  exact hQ
set_option maxRecDepth 100000 in
set_option maxHeartbeats 4000000 in
theorem f_X2_kindOf {G : gb_G} (hW : gW G) {Q : Option Value → gb_M → Prop} {mM : gb_M} {bs : Nat → Nat} {ln pl so sa nu : Nat} (hP : isP G mM bs ln pl so sa nu) (hln : ln ≤ 160) (hbs : ∀ k, k < ln → bs k ≤ 127) (hpl : pl ≤ ln) (hsp : sa ≤ pl) (hso : so ≤ 4)  (hQ : Q (some (.int (wdI (tkK bs so sa pl)))) mM) : Fn G 5 yX2_kindOf cX2_kindOf 1 (some .int) [.ref (gb_ad G 12)] mM Q := by
  have hN := hW.2.2.1
  refine Fn.of hW.1 [(0, .ref (gb_ad G 12))] (by decide) (Nat.le_of_ble_eq_true rfl) rfl ?_
  intro X O
  refine w_aload_n (n := 1) O dX2_kindOf_0 rfl rfl rfl ?_
  refine w_ldcT (n := 3) O dX2_kindOf_1 (gz_TX4 hW O) rfl ?_
  refine w_cV (n := 6) (ro := some (.int (bI (tkIs bs so sa pl 4)))) (R := fun mM' => mM = mM') (st := []) (st1 := [.int (bI (tkIs bs so sa pl 4))]) (As := [.ref (gb_ad G (63 + 4))]) (b := 12) O dX2_kindOf_3 ul_X2_80 um_X4_isName (f_X4_isName (i := 4) hW ⟨hP.1, hP.2⟩ hln hbs (by omega) (by omega) (by omega) (by omega) ⟨rfl, rfl⟩) rfl (by omega) hP.1 rfl rfl rfl rfl (by decide) (Nat.le_of_ble_eq_true rfl) rfl (fun mhM_1 hM_1 => ?_)
  subst hM_1
  refine w_if_eqB (n := 9) (tgt := 11) O dX2_kindOf_6 (by decide) rfl (fun c_2 => ?_) (fun c_2 => ?_)
  · skip
    refine w_aload_n (n := 12) O dX2_kindOf_11 rfl rfl rfl ?_
    refine w_ldcT (n := 14) O dX2_kindOf_12 (gz_TX5 hW O) rfl ?_
    refine w_cV (n := 17) (ro := some (.int (bI (tkIs bs so sa pl 5)))) (R := fun mM' => mM = mM') (st := []) (st1 := [.int (bI (tkIs bs so sa pl 5))]) (As := [.ref (gb_ad G (63 + 5))]) (b := 12) O dX2_kindOf_14 ul_X2_80 um_X4_isName (f_X4_isName (i := 5) hW ⟨hP.1, hP.2⟩ hln hbs (by omega) (by omega) (by omega) (by omega) ⟨rfl, rfl⟩) rfl (by omega) hP.1 rfl rfl rfl rfl (by decide) (Nat.le_of_ble_eq_true rfl) rfl (fun mhM_3 hM_3 => ?_)
    subst hM_3
    refine w_if_eqB (n := 20) (tgt := 22) O dX2_kindOf_17 (by decide) rfl (fun c_4 => ?_) (fun c_4 => ?_)
    · skip
      refine w_aload_n (n := 23) O dX2_kindOf_22 rfl rfl rfl ?_
      refine w_ldcT (n := 25) O dX2_kindOf_23 (gz_TX6 hW O) rfl ?_
      refine w_cV (n := 28) (ro := some (.int (bI (tkIs bs so sa pl 6)))) (R := fun mM' => mM = mM') (st := []) (st1 := [.int (bI (tkIs bs so sa pl 6))]) (As := [.ref (gb_ad G (63 + 6))]) (b := 12) O dX2_kindOf_25 ul_X2_80 um_X4_isName (f_X4_isName (i := 6) hW ⟨hP.1, hP.2⟩ hln hbs (by omega) (by omega) (by omega) (by omega) ⟨rfl, rfl⟩) rfl (by omega) hP.1 rfl rfl rfl rfl (by decide) (Nat.le_of_ble_eq_true rfl) rfl (fun mhM_5 hM_5 => ?_)
      subst hM_5
      refine w_if_eqB (n := 31) (tgt := 33) O dX2_kindOf_28 (by decide) rfl (fun c_6 => ?_) (fun c_6 => ?_)
      · skip
        refine w_aload_n (n := 34) O dX2_kindOf_33 rfl rfl rfl ?_
        refine w_ldcT (n := 36) O dX2_kindOf_34 (gz_TX7 hW O) rfl ?_
        refine w_cV (n := 39) (ro := some (.int (bI (tkIs bs so sa pl 7)))) (R := fun mM' => mM = mM') (st := []) (st1 := [.int (bI (tkIs bs so sa pl 7))]) (As := [.ref (gb_ad G (63 + 7))]) (b := 12) O dX2_kindOf_36 ul_X2_80 um_X4_isName (f_X4_isName (i := 7) hW ⟨hP.1, hP.2⟩ hln hbs (by omega) (by omega) (by omega) (by omega) ⟨rfl, rfl⟩) rfl (by omega) hP.1 rfl rfl rfl rfl (by decide) (Nat.le_of_ble_eq_true rfl) rfl (fun mhM_7 hM_7 => ?_)
        subst hM_7
        refine w_if_eqB (n := 42) (tgt := 46) O dX2_kindOf_39 (by decide) rfl (fun c_8 => ?_) (fun c_8 => ?_)
        · skip
          refine w_bipush (n := 48) O dX2_kindOf_46 (v := (-4)) (by decide) rfl ?_
          refine w_iret O dX2_kindOf_48 ?_
          have e : wdI (tkK bs so sa pl) = (-4) := by unfold tkK; rw [if_neg (by rw [c_2]; decide), if_neg (by rw [c_4]; decide), if_neg (by rw [c_6]; decide), if_neg (by rw [c_8]; decide)]; rfl
          rw [e] at hQ
          exact hQ
        · skip
          refine w_iconst (n := 43) O dX2_kindOf_42 (v := (nI 3)) (by decide) rfl ?_
          refine w_goto (tgt := 48) O dX2_kindOf_43 (by decide) ?_
          refine w_iret O dX2_kindOf_48 ?_
          have e : wdI (tkK bs so sa pl) = (nI (3)) := by unfold tkK; rw [if_neg (by rw [c_2]; decide), if_neg (by rw [c_4]; decide), if_neg (by rw [c_6]; decide), if_pos c_8]; rfl
          rw [e] at hQ
          exact hQ
      · skip
        refine w_iconst (n := 32) O dX2_kindOf_31 (v := (nI 2)) (by decide) rfl ?_
        refine w_iret O dX2_kindOf_32 ?_
        have e : wdI (tkK bs so sa pl) = (nI (2)) := by unfold tkK; rw [if_neg (by rw [c_2]; decide), if_neg (by rw [c_4]; decide), if_pos c_6]; rfl
        rw [e] at hQ
        exact hQ
    · skip
      refine w_iconst (n := 21) O dX2_kindOf_20 (v := (nI 1)) (by decide) rfl ?_
      refine w_iret O dX2_kindOf_21 ?_
      have e : wdI (tkK bs so sa pl) = (nI (1)) := by unfold tkK; rw [if_neg (by rw [c_2]; decide), if_pos c_4]; rfl
      rw [e] at hQ
      exact hQ
  · skip
    refine w_iconst (n := 10) O dX2_kindOf_9 (v := (nI 0)) (by decide) rfl ?_
    refine w_iret O dX2_kindOf_10 ?_
    have e : wdI (tkK bs so sa pl) = (nI (0)) := by unfold tkK; rw [if_pos c_2]; rfl
    rw [e] at hQ
    exact hQ
set_option maxRecDepth 100000 in
set_option maxHeartbeats 4000000 in
theorem f_X2_metalOf {G : gb_G} (hW : gW G) {Q : Option Value → gb_M → Prop} {mM : gb_M} {bs : Nat → Nat} {ln pl so sa nu : Nat} (hP : isP G mM bs ln pl so sa nu) (hln : ln ≤ 160) (hbs : ∀ k, k < ln → bs k ≤ 127) (hpl : pl ≤ ln) (hsp : sa ≤ pl) (hso : so ≤ 4)  (hQ : Q (some (.int (wdI (tkM bs so sa pl)))) mM) : Fn G 5 yX2_metalOf cX2_metalOf 1 (some .int) [.ref (gb_ad G 12)] mM Q := by
  have hN := hW.2.2.1
  refine Fn.of hW.1 [(0, .ref (gb_ad G 12))] (by decide) (Nat.le_of_ble_eq_true rfl) rfl ?_
  intro X O
  refine w_aload_n (n := 1) O dX2_metalOf_0 rfl rfl rfl ?_
  refine w_ldcT (n := 3) O dX2_metalOf_1 (gz_TX8 hW O) rfl ?_
  refine w_cV (n := 6) (ro := some (.int (bI (tkIs bs so sa pl 8)))) (R := fun mM' => mM = mM') (st := []) (st1 := [.int (bI (tkIs bs so sa pl 8))]) (As := [.ref (gb_ad G (63 + 8))]) (b := 12) O dX2_metalOf_3 ul_X2_80 um_X4_isName (f_X4_isName (i := 8) hW ⟨hP.1, hP.2⟩ hln hbs (by omega) (by omega) (by omega) (by omega) ⟨rfl, rfl⟩) rfl (by omega) hP.1 rfl rfl rfl rfl (by decide) (Nat.le_of_ble_eq_true rfl) rfl (fun mhM_1 hM_1 => ?_)
  subst hM_1
  refine w_if_eqB (n := 9) (tgt := 11) O dX2_metalOf_6 (by decide) rfl (fun c_2 => ?_) (fun c_2 => ?_)
  · skip
    refine w_aload_n (n := 12) O dX2_metalOf_11 rfl rfl rfl ?_
    refine w_ldcT (n := 14) O dX2_metalOf_12 (gz_TX9 hW O) rfl ?_
    refine w_cV (n := 17) (ro := some (.int (bI (tkIs bs so sa pl 9)))) (R := fun mM' => mM = mM') (st := []) (st1 := [.int (bI (tkIs bs so sa pl 9))]) (As := [.ref (gb_ad G (63 + 9))]) (b := 12) O dX2_metalOf_14 ul_X2_80 um_X4_isName (f_X4_isName (i := 9) hW ⟨hP.1, hP.2⟩ hln hbs (by omega) (by omega) (by omega) (by omega) ⟨rfl, rfl⟩) rfl (by omega) hP.1 rfl rfl rfl rfl (by decide) (Nat.le_of_ble_eq_true rfl) rfl (fun mhM_3 hM_3 => ?_)
    subst hM_3
    refine w_if_eqB (n := 20) (tgt := 22) O dX2_metalOf_17 (by decide) rfl (fun c_4 => ?_) (fun c_4 => ?_)
    · skip
      refine w_aload_n (n := 23) O dX2_metalOf_22 rfl rfl rfl ?_
      refine w_ldcT (n := 25) O dX2_metalOf_23 (gz_TX10 hW O) rfl ?_
      refine w_cV (n := 28) (ro := some (.int (bI (tkIs bs so sa pl 10)))) (R := fun mM' => mM = mM') (st := []) (st1 := [.int (bI (tkIs bs so sa pl 10))]) (As := [.ref (gb_ad G (63 + 10))]) (b := 12) O dX2_metalOf_25 ul_X2_80 um_X4_isName (f_X4_isName (i := 10) hW ⟨hP.1, hP.2⟩ hln hbs (by omega) (by omega) (by omega) (by omega) ⟨rfl, rfl⟩) rfl (by omega) hP.1 rfl rfl rfl rfl (by decide) (Nat.le_of_ble_eq_true rfl) rfl (fun mhM_5 hM_5 => ?_)
      subst hM_5
      refine w_if_eqB (n := 31) (tgt := 33) O dX2_metalOf_28 (by decide) rfl (fun c_6 => ?_) (fun c_6 => ?_)
      · skip
        refine w_aload_n (n := 34) O dX2_metalOf_33 rfl rfl rfl ?_
        refine w_ldcT (n := 36) O dX2_metalOf_34 (gz_TX11 hW O) rfl ?_
        refine w_cV (n := 39) (ro := some (.int (bI (tkIs bs so sa pl 11)))) (R := fun mM' => mM = mM') (st := []) (st1 := [.int (bI (tkIs bs so sa pl 11))]) (As := [.ref (gb_ad G (63 + 11))]) (b := 12) O dX2_metalOf_36 ul_X2_80 um_X4_isName (f_X4_isName (i := 11) hW ⟨hP.1, hP.2⟩ hln hbs (by omega) (by omega) (by omega) (by omega) ⟨rfl, rfl⟩) rfl (by omega) hP.1 rfl rfl rfl rfl (by decide) (Nat.le_of_ble_eq_true rfl) rfl (fun mhM_7 hM_7 => ?_)
        subst hM_7
        refine w_if_eqB (n := 42) (tgt := 46) O dX2_metalOf_39 (by decide) rfl (fun c_8 => ?_) (fun c_8 => ?_)
        · skip
          refine w_bipush (n := 48) O dX2_metalOf_46 (v := (-4)) (by decide) rfl ?_
          refine w_iret O dX2_metalOf_48 ?_
          have e : wdI (tkM bs so sa pl) = (-4) := by unfold tkM; rw [if_neg (by rw [c_2]; decide), if_neg (by rw [c_4]; decide), if_neg (by rw [c_6]; decide), if_neg (by rw [c_8]; decide)]; rfl
          rw [e] at hQ
          exact hQ
        · skip
          refine w_iconst (n := 43) O dX2_metalOf_42 (v := (nI 3)) (by decide) rfl ?_
          refine w_goto (tgt := 48) O dX2_metalOf_43 (by decide) ?_
          refine w_iret O dX2_metalOf_48 ?_
          have e : wdI (tkM bs so sa pl) = (nI (3)) := by unfold tkM; rw [if_neg (by rw [c_2]; decide), if_neg (by rw [c_4]; decide), if_neg (by rw [c_6]; decide), if_pos c_8]; rfl
          rw [e] at hQ
          exact hQ
      · skip
        refine w_iconst (n := 32) O dX2_metalOf_31 (v := (nI 2)) (by decide) rfl ?_
        refine w_iret O dX2_metalOf_32 ?_
        have e : wdI (tkM bs so sa pl) = (nI (2)) := by unfold tkM; rw [if_neg (by rw [c_2]; decide), if_neg (by rw [c_4]; decide), if_pos c_6]; rfl
        rw [e] at hQ
        exact hQ
    · skip
      refine w_iconst (n := 21) O dX2_metalOf_20 (v := (nI 1)) (by decide) rfl ?_
      refine w_iret O dX2_metalOf_21 ?_
      have e : wdI (tkM bs so sa pl) = (nI (1)) := by unfold tkM; rw [if_neg (by rw [c_2]; decide), if_pos c_4]; rfl
      rw [e] at hQ
      exact hQ
  · skip
    refine w_iconst (n := 10) O dX2_metalOf_9 (v := (nI 0)) (by decide) rfl ?_
    refine w_iret O dX2_metalOf_10 ?_
    have e : wdI (tkM bs so sa pl) = (nI (0)) := by unfold tkM; rw [if_pos c_2]; rfl
    rw [e] at hQ
    exact hQ
set_option maxRecDepth 100000 in
set_option maxHeartbeats 4000000 in
theorem f_X2_readNumber {G : gb_G} (hW : gW G) {Q : Option Value → gb_M → Prop} {mM : gb_M} {bs : Nat → Nat} {ln pl so sa nu : Nat} (hP : isP G mM bs ln pl so sa nu) (hln : ln ≤ 160) (hbs : ∀ k, k < ln → bs k ≤ 127) (hpl : pl ≤ ln) (hsa : sa ≤ 160) (hso : so ≤ 4) {fp s1 s2 s3 : Nat} {s4 : Bool} (hC : isC G mM 0 fp s1 s2 s3 s4) {lo hi : Nat} (hlo : lo ≤ 100) (hhi : hi ≤ 100)  (hQ : ∀ M' fp', isP G M' bs ln (tkE bs ln pl) (tkS bs ln pl) (tkB bs ln pl) (tkU bs ln pl nu) → isC G M' (aN bs ln lo hi pl) fp' s1 s2 s3 s4 → (aN bs ln lo hi pl ≠ 0 → fp' = tkB bs ln pl) → sm mM M' 12 14 → Q (some (.int (bI (decide (aN bs ln lo hi pl = 0))))) M') : Fn G 3 yX2_readNumber cX2_readNumber 4 (some .boolean) [.ref (gb_ad G 14), .ref (gb_ad G 12), .int (nI (lo)), .int (nI (hi))] mM Q := by
  have hN := hW.2.2.1
  refine Fn.of hW.1 [(0, .ref (gb_ad G 14)), (1, .ref (gb_ad G 12)), (2, .int (nI (lo))), (3, .int (nI (hi)))] (by decide) (Nat.le_of_ble_eq_true rfl) rfl ?_
  intro X O
  refine w_aload_n (n := 1) O dX2_readNumber_0 rfl rfl rfl ?_
  refine w_aload_n (n := 2) O dX2_readNumber_1 rfl rfl rfl ?_
  refine w_cV (n := 5) (ro := some (.int (bI (decide (¬ tkS bs ln pl = 0))))) (R := fun mM' => ∃ fp', isP G mM' bs ln (tkE bs ln pl) (tkS bs ln pl) (tkB bs ln pl) (tkU bs ln pl nu) ∧ isC G mM' (aT bs ln pl) fp' s1 s2 s3 s4 ∧ (aT bs ln pl ≠ 0 → fp' = tkB bs ln pl) ∧ sm mM mM' 12 14) (st := []) (st1 := [.int (bI (decide (¬ tkS bs ln pl = 0)))]) (As := [.ref (gb_ad G 12)]) (b := 14) O dX2_readNumber_2 ul_X2_42 um_X2_readOn (f_X2_readOn hW ⟨hP.1, hP.2⟩ hln hbs (by omega) (by omega) (by omega) hC (fun M' a h1 h2 h3 h4 => ⟨rfl, a, h1, h2, h3, h4⟩)) rfl (by omega) hC rfl rfl rfl rfl (by decide) (Nat.le_of_ble_eq_true rfl) rfl (fun mhM_6 hM_6 => ?_)
  obtain ⟨fp_5, hP_1, hC_2, hf_3, hs_4⟩ := hM_6
  have bhP_1 := tkE_le (bs := bs) (ln := ln) (p := pl) (by omega)
  have chP_1 := tkB_le (bs := bs) (ln := ln) (p := pl) (by omega)
  have dhP_1 := tkE_ge bs ln pl
  have ehP_1 := tkS_le bs ln pl
  refine w_if_neB (n := 8) (tgt := 10) O dX2_readNumber_5 (by decide) rfl (fun c_7 => ?_) (fun c_7 => ?_)
  · skip
    have ht := dn_t c_7
    have ea : aT bs ln pl = 0 := if_neg ht
    have hC_8 : isC G mhM_6 0 fp_5 s1 s2 s3 s4 := Eq.mp (congrArg (fun x => isC G mhM_6 x fp_5 s1 s2 s3 s4) ea) hC_2
    refine w_aload_n (n := 11) O dX2_readNumber_10 rfl rfl rfl ?_
    refine w_getf (n := 14) O 3 dX2_readNumber_11 (by omega) hP_1.1 rfl (by decide) uX4 uf_X2_46 rfl rfl ?_
    refine w_iconst (n := 15) O dX2_readNumber_14 (v := (nI 3)) (by decide) rfl ?_
    refine w_icmp_eqN (n := 18) (tgt := 28) O dX2_readNumber_15 (by omega) (by omega) (by decide) rfl (fun c_9 => ?_) (fun c_9 => ?_)
    · skip
      have hv := tkV_le c_9
      have hP_10 := hP_1.1
      rw [tkU_3 c_9] at hP_10
      refine w_aload_n (n := 29) O dX2_readNumber_28 rfl rfl rfl ?_
      refine w_getf (n := 32) O 5 dX2_readNumber_29 (by omega) hP_10 rfl (by decide) uX4 uf_X2_113 rfl rfl ?_
      refine w_iload_n (n := 33) O dX2_readNumber_32 rfl rfl rfl ?_
      refine w_iload_n (n := 34) O dX2_readNumber_33 rfl rfl rfl ?_
      refine w_cN (n := 37) (ro := some (.int (bI (wIn (nI (tkV bs ln pl)) (nI (lo)) (nI (hi)))))) (R := fun mM' => mhM_6 = mM') (st := []) (st1 := [.int (bI (wIn (nI (tkV bs ln pl)) (nI (lo)) (nI (hi))))]) (As := [.int (nI (tkV bs ln pl)), .int (nI (lo)), .int (nI (hi))]) O dX2_readNumber_34 (gz_NW4 hW O) um_X6_within (f_X6_within hW ⟨rfl, rfl⟩) rfl rfl rfl (by decide) (Nat.le_of_ble_eq_true rfl) rfl (fun mhM_11 hM_11 => ?_)
      subst hM_11
      refine w_if_neB (n := 40) (tgt := 52) O dX2_readNumber_37 (by decide) rfl (fun c_12 => ?_) (fun c_12 => ?_)
      · skip
        refine w_iconst (n := 53) O dX2_readNumber_52 (v := (nI 1)) (by decide) rfl ?_
        refine w_goto (tgt := 57) O dX2_readNumber_53 (by decide) ?_
        refine w_zret O dX2_readNumber_57 (by decide) ?_
        have hwn := wIn_n (j := tkV bs ln pl) (a := lo) (b := hi) (by omega) (by omega) (by omega)
        rw [c_12] at hwn
        have hw2 := Bool.and_eq_true_iff.mp hwn.symm
        have e1 : aN bs ln lo hi pl = 0 := by unfold aN; rw [if_neg ht, if_neg (fun q => q c_9), if_pos ⟨of_decide_eq_true hw2.1, of_decide_eq_true hw2.2⟩]
        have hPe := hP_10
        rw [← tkU_3 (nu := nu) c_9] at hPe
        rw [e1] at hQ
        exact hQ _ _ ⟨hPe, hP_1.2⟩ hC_8 (fun q => absurd rfl q) (sm.rf.tr (hs_4.mono (by omega) (by omega)))
      · skip
        refine w_aload_n (n := 41) O dX2_readNumber_40 rfl rfl rfl ?_
        refine w_iconst (n := 42) O dX2_readNumber_41 (v := (nI 3)) (by decide) rfl ?_
        refine w_aload_n (n := 43) O dX2_readNumber_42 rfl rfl rfl ?_
        refine w_getf (n := 46) O 4 dX2_readNumber_43 (by omega) hP_10 rfl (by decide) uX4 uf_X2_102 rfl rfl ?_
        refine w_cV (n := 49) (ro := some (.int (bI (false)))) (R := fun mM' => isC G mM' 3 (tkB bs ln pl) s1 s2 s3 s4 ∧ sm mhM_6 mM' 14 14) (st := []) (st1 := [.int (bI (false))]) (As := [.int (nI 3), .int (nI (tkB bs ln pl))]) (b := 14) O dX2_readNumber_46 ul_X2_60 um_X2_refuse (f_X2_refuse hW hC_8 (fun M' h1 h2 => ⟨rfl, h1, h2⟩)) rfl (by omega) hC_8 rfl rfl rfl rfl (by decide) (Nat.le_of_ble_eq_true rfl) rfl (fun mhM_15 hM_15 => ?_)
        obtain ⟨hC_13, hs_14⟩ := hM_15
        refine w_if_eqB (n := 52) (tgt := 56) O dX2_readNumber_49 (by decide) rfl (fun c_16 => ?_) (fun c_16 => absurd c_16 (by decide))
        refine w_iconst (n := 57) O dX2_readNumber_56 (v := (nI 0)) (by decide) rfl ?_
        refine w_zret O dX2_readNumber_57 (by decide) ?_
        have hwn := wIn_n (j := tkV bs ln pl) (a := lo) (b := hi) (by omega) (by omega) (by omega)
        rw [c_12] at hwn
        have e1 : aN bs ln lo hi pl = 3 := by unfold aN; rw [if_neg ht, if_neg (fun q => q c_9), if_neg (fun q => by rw [decide_eq_true q.1, decide_eq_true q.2] at hwn; exact absurd hwn (by decide))]
        have hPe := ((hs_14 (12) (by omega)).trans hP_10)
        rw [← tkU_3 (nu := nu) c_9] at hPe
        rw [e1] at hQ
        exact hQ _ _ ⟨hPe, ((hs_14 (13) (by omega)).trans hP_1.2)⟩ hC_13 (fun _ => rfl) ((sm.rf.tr (hs_4.mono (by omega) (by omega))).tr (hs_14.mono (by omega) (by omega)))
    · skip
      refine w_aload_n (n := 19) O dX2_readNumber_18 rfl rfl rfl ?_
      refine w_iconst (n := 20) O dX2_readNumber_19 (v := (nI 2)) (by decide) rfl ?_
      refine w_aload_n (n := 21) O dX2_readNumber_20 rfl rfl rfl ?_
      refine w_getf (n := 24) O 4 dX2_readNumber_21 (by omega) hP_1.1 rfl (by decide) uX4 uf_X2_102 rfl rfl ?_
      refine w_cV (n := 27) (ro := some (.int (bI (false)))) (R := fun mM' => isC G mM' 2 (tkB bs ln pl) s1 s2 s3 s4 ∧ sm mhM_6 mM' 14 14) (st := []) (st1 := [.int (bI (false))]) (As := [.int (nI 2), .int (nI (tkB bs ln pl))]) (b := 14) O dX2_readNumber_24 ul_X2_60 um_X2_refuse (f_X2_refuse hW hC_8 (fun M' h1 h2 => ⟨rfl, h1, h2⟩)) rfl (by omega) hC_8 rfl rfl rfl rfl (by decide) (Nat.le_of_ble_eq_true rfl) rfl (fun mhM_19 hM_19 => ?_)
      obtain ⟨hC_17, hs_18⟩ := hM_19
      refine w_zret O dX2_readNumber_27 (bI_nar _) ?_
      have e1 : aN bs ln lo hi pl = 2 := by unfold aN; rw [if_neg ht, if_pos c_9]
      rw [e1] at hQ
      exact hQ _ _ ⟨((hs_18 (12) (by omega)).trans hP_1.1), ((hs_18 (13) (by omega)).trans hP_1.2)⟩ hC_17 (fun _ => rfl) ((sm.rf.tr (hs_4.mono (by omega) (by omega))).tr (hs_18.mono (by omega) (by omega)))
  · skip
    refine w_iconst (n := 9) O dX2_readNumber_8 (v := (nI 0)) (by decide) rfl ?_
    refine w_zret O dX2_readNumber_9 (by decide) ?_
    have h0 := dn_f c_7
    have e1 : aN bs ln lo hi pl = 1 := if_pos h0
    have ea : aT bs ln pl = 1 := if_pos h0
    have hC_20 : isC G mhM_6 1 fp_5 s1 s2 s3 s4 := Eq.mp (congrArg (fun x => isC G mhM_6 x fp_5 s1 s2 s3 s4) ea) hC_2
    rw [e1] at hQ
    exact hQ _ _ ⟨hP_1.1, hP_1.2⟩ hC_20 (fun _ => hf_3 (by rw [ea]; decide)) (sm.rf.tr (hs_4.mono (by omega) (by omega)))
