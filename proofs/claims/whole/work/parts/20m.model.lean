set_option maxRecDepth 100000 in
set_option maxHeartbeats 4000000 in
theorem f_X7_alterB {G : gb_G} (hW : gW G) {Q : Option Value → gb_M → Prop} {mM : gb_M} {s : Nat → Nat} {T : Tw} {lo li : Nat} {to : Option Nat} {tm : Nat} (hV : isV G mM s T lo li to tm) (ok : okT T) {g v : Int32} (hcf : (isGv g T.2.2.2.1 && wIn v (nI 0) (nI 9)) = false)  (hQ : Q (some (.int (-1))) mM) : Fn G 2 yX7_alter cX7_alter 4 (some .int) [.ref (gb_ad G 49), .int (g), .int (nI 1), .int (v)] mM Q := by
  obtain ⟨h50, hpg, x3, x4, x5, x6, x7, x9, x10, x11, x12, x13, x14, x15, x16, x24, x26, x31, h49⟩ := hV
  have hV : isV G mM s T lo li to tm := ⟨h50, hpg, x3, x4, x5, x6, x7, x9, x10, x11, x12, x13, x14, x15, x16, x24, x26, x31, h49⟩
  have hn4 := ok.1
  have hN := hW.2.2.1
  refine Fn.of hW.1 [(0, .ref (gb_ad G 49)), (1, .int (g)), (2, .int (nI 1)), (3, .int (v))] (by decide) (Nat.le_of_ble_eq_true rfl) rfl ?_
  intro X O
  refine w_aload_n (n := 1) O dX7_alter_0 rfl rfl rfl ?_
  refine w_iload_n (n := 2) O dX7_alter_1 rfl rfl rfl ?_
  refine w_cV (n := 5) (ro := some (.int (bI (isGv (g) T.2.2.2.1)))) (R := fun mM' => mM = mM') (st := []) (st1 := [.int (bI (isGv (g) T.2.2.2.1))]) (As := [.int (g)]) (b := 49) O dX7_alter_2 ul_X7_165 um_X7_isGiver (f_X7_isGiver (s := s) (T := T) (lo := lo) (li := li) (to := to) (tm := tm) hW hV ok  ⟨rfl, rfl⟩) rfl (by omega) h49 rfl rfl rfl rfl (by decide) (Nat.le_of_ble_eq_true rfl) rfl (fun mhM_1 hM_1 => ?_)
  subst hM_1
  refine w_if_neB (n := 8) (tgt := 10) O dX7_alter_5 (by decide) rfl (fun c_2 => ?_) (fun c_2 => ?_)
  · skip
    refine w_iload_n (n := 11) O dX7_alter_10 rfl rfl rfl ?_
    refine w_tableIn (tgt := 69) O dX7_alter_11 (by decide) (by decide) rfl (by decide) ?_
    have hcf2 : wIn v (nI 0) (nI 9) = false := by rw [c_2, Bool.true_and] at hcf; exact hcf
    refine w_aload_n (n := 70) O dX7_alter_69 rfl rfl rfl ?_
    refine w_iload_n (n := 71) O dX7_alter_70 rfl rfl rfl ?_
    refine w_i2l (n := 72) O dX7_alter_71 rfl ?_
    refine w_lconst (n := 73) O dX7_alter_72 (v := lN 0) (by decide) rfl ?_
    refine w_ldc2 (n := 76) O dX7_alter_73 uc_X7_208 rfl ?_
    refine w_topl (lN 9) (by decide) ?_
    refine w_cS (n := 79) (ro := some (.int (bI (wIn (v) (nI 0) (nI 9))))) (R := fun mM' => mM = mM') (st := [.ref (gb_ad G 49)]) (st1 := [.int (bI (wIn (v) (nI 0) (nI 9))), .ref (gb_ad G 49)]) (As := [.long ((v).toInt64), .long (lN 0), .long (lN 9)]) O dX7_alter_76 ul_X7_50 um_X7_in (f_X7_in (x := (v)) (y := (nI 0)) (z := (nI 9)) hW rfl (nI_l (by decide)).symm (nI_l (by decide)).symm ⟨rfl, rfl⟩) rfl rfl rfl (by decide) (Nat.le_of_ble_eq_true rfl) rfl (fun mhM_3 hM_3 => ?_)
    subst hM_3
    refine w_iconst (n := 80) O dX7_alter_79 (v := (nI 4)) (by decide) rfl ?_
    refine w_iload_n (n := 81) O dX7_alter_80 rfl rfl rfl ?_
    refine w_iadd (n := 82) O dX7_alter_81 rfl ?_
    refine w_iload_n (n := 83) O dX7_alter_82 rfl rfl rfl ?_
    refine w_iconst (n := 84) O dX7_alter_83 (v := (nI 0)) (by decide) rfl ?_
    refine w_cV (n := 87) (ro := some (.int (-1))) (R := fun mM' => mM = mM') (st := []) (st1 := [.int (-1)]) (As := [.int (bI (wIn (v) (nI 0) (nI 9))), .int (((nI (4)) + (g))), .int (v), .int (nI 0)]) (b := 49) O dX7_alter_84 ul_X7_204 um_X7_puts (f_X7_putsF hW (bI_0.mpr hcf2) ⟨rfl, rfl⟩) rfl (by omega) h49 rfl rfl rfl rfl (by decide) (Nat.le_of_ble_eq_true rfl) rfl (fun mhM_4 hM_4 => ?_)
    subst hM_4
    refine w_iret O dX7_alter_87 ?_
    exact hQ
  · skip
    refine w_iconst (n := 9) O dX7_alter_8 (v := (-1)) (by decide) rfl ?_
    refine w_iret O dX7_alter_9 ?_
    exact hQ
set_option maxRecDepth 100000 in
set_option maxHeartbeats 4000000 in
theorem f_X7_alterG {G : gb_G} (hW : gW G) {Q : Option Value → gb_M → Prop} {mM : gb_M} {s : Nat → Nat} {T : Tw} {lo li : Nat} {to : Option Nat} {tm : Nat} (hV : isV G mM s T lo li to tm) (ok : okT T) {j q : Nat} (hj : j < T.2.2.2.1) (hq : wIn (nI q) (nI 0) (nI 9) = true)  (hQ : ∀ M', M' 50 = IA G 150 (pgI (upN s (4 + j) q)) → sm mM M' 50 50 → Q (some (.int (nI (T.1 (j * 6 + 1))))) M') : Fn G 2 yX7_alter cX7_alter 4 (some .int) [.ref (gb_ad G 49), .int (nI (j)), .int (nI 1), .int (nI (q))] mM Q := by
  obtain ⟨h50, hpg, x3, x4, x5, x6, x7, x9, x10, x11, x12, x13, x14, x15, x16, x24, x26, x31, h49⟩ := hV
  have hV : isV G mM s T lo li to tm := ⟨h50, hpg, x3, x4, x5, x6, x7, x9, x10, x11, x12, x13, x14, x15, x16, x24, x26, x31, h49⟩
  have hn4 := ok.1
  have hN := hW.2.2.1
  refine Fn.of hW.1 [(0, .ref (gb_ad G 49)), (1, .int (nI (j))), (2, .int (nI 1)), (3, .int (nI (q)))] (by decide) (Nat.le_of_ble_eq_true rfl) rfl ?_
  intro X O
  refine w_aload_n (n := 1) O dX7_alter_0 rfl rfl rfl ?_
  refine w_iload_n (n := 2) O dX7_alter_1 rfl rfl rfl ?_
  refine w_cV (n := 5) (ro := some (.int (bI (isGv (nI (j)) T.2.2.2.1)))) (R := fun mM' => mM = mM') (st := []) (st1 := [.int (bI (isGv (nI (j)) T.2.2.2.1))]) (As := [.int (nI (j))]) (b := 49) O dX7_alter_2 ul_X7_165 um_X7_isGiver (f_X7_isGiver (s := s) (T := T) (lo := lo) (li := li) (to := to) (tm := tm) hW hV ok  ⟨rfl, rfl⟩) rfl (by omega) h49 rfl rfl rfl rfl (by decide) (Nat.le_of_ble_eq_true rfl) rfl (fun mhM_1 hM_1 => ?_)
  subst hM_1
  refine w_if_neB (n := 8) (tgt := 10) O dX7_alter_5 (by decide) rfl (fun c_2 => ?_) (fun c_2 => absurd c_2 (by rw [isGv_n (by omega) hj]; decide))
  refine w_iload_n (n := 11) O dX7_alter_10 rfl rfl rfl ?_
  refine w_tableIn (tgt := 69) O dX7_alter_11 (by decide) (by decide) rfl (by decide) ?_
  refine w_aload_n (n := 70) O dX7_alter_69 rfl rfl rfl ?_
  refine w_iload_n (n := 71) O dX7_alter_70 rfl rfl rfl ?_
  refine w_i2l (n := 72) O dX7_alter_71 rfl ?_
  refine w_lconst (n := 73) O dX7_alter_72 (v := lN 0) (by decide) rfl ?_
  refine w_ldc2 (n := 76) O dX7_alter_73 uc_X7_208 rfl ?_
  refine w_topl (lN 9) (by decide) ?_
  refine w_cS (n := 79) (ro := some (.int (bI (wIn (nI (q)) (nI 0) (nI 9))))) (R := fun mM' => mM = mM') (st := [.ref (gb_ad G 49)]) (st1 := [.int (bI (wIn (nI (q)) (nI 0) (nI 9))), .ref (gb_ad G 49)]) (As := [.long ((nI (q)).toInt64), .long (lN 0), .long (lN 9)]) O dX7_alter_76 ul_X7_50 um_X7_in (f_X7_in (x := (nI (q))) (y := (nI 0)) (z := (nI 9)) hW rfl (nI_l (by decide)).symm (nI_l (by decide)).symm ⟨rfl, rfl⟩) rfl rfl rfl (by decide) (Nat.le_of_ble_eq_true rfl) rfl (fun mhM_3 hM_3 => ?_)
  subst hM_3
  refine w_iconst (n := 80) O dX7_alter_79 (v := (nI 4)) (by decide) rfl ?_
  refine w_iload_n (n := 81) O dX7_alter_80 rfl rfl rfl ?_
  refine w_iaddN (n := 82) O dX7_alter_81 rfl ?_
  refine w_iload_n (n := 83) O dX7_alter_82 rfl rfl rfl ?_
  refine w_iconst (n := 84) O dX7_alter_83 (v := (nI 0)) (by decide) rfl ?_
  refine w_cV (n := 87) (ro := some (.int (nI (T.1 (j * 6 + 1))))) (R := fun mM' => mM' 50 = IA G 150 (pgI (upN s (4 + j) q)) ∧ sm mM mM' 50 50) (st := []) (st1 := [.int (nI (T.1 (j * 6 + 1)))]) (As := [.int (bI (wIn (nI (q)) (nI 0) (nI 9))), .int (nI ((4 + j))), .int (nI (q)), .int (nI 0)]) (b := 49) O dX7_alter_84 ul_X7_204 um_X7_puts (f_X7_putsT (s := s) (T := T) (lo := lo) (li := li) (to := to) (tm := tm) hW hV (fun z => by rw [bI_0.mp z] at hq; exact absurd hq (by decide)) (i := (4 + j)) (w := q) (by omega) (by omega) (fun M' h1 h2 => ⟨congrArg (fun z => some (Value.int (nI z))) (hpg.1 j (by omega)).2.1, h1, h2⟩)) rfl (by omega) h49 rfl rfl rfl rfl (by decide) (Nat.le_of_ble_eq_true rfl) rfl (fun mhM_4 hM_4 => ?_)
  obtain ⟨hphM_4, hshM_4⟩ := hM_4
  refine w_iret O dX7_alter_87 ?_
  exact hQ _ hphM_4 (sm.rf.tr (hshM_4.mono (by omega) (by omega)))
theorem imK3 {s s2 : Nat → Nat} {im : Nat → Tw} {kp : Nat → Bool} (h : ∀ k, k < 2 → kp k = true → pgO s (30 * (k + 1)) (im k)) (e : ∀ k, 30 ≤ k → k < 90 → s2 k = s k) : ∀ k, k < 2 → kp k = true → pgO s2 (30 * (k + 1)) (im k) := fun k h1 h2 => pgO_cong (h k h1 h2) (fun q h3 h4 => e q (by omega) (by omega))
theorem pg_bk9 {s s2 : Nat → Nat} (h : ∀ k, 30 ≤ k → k < 150 → s2 k = cpS s 0 90 k) : ∀ k, k < 90 → cpS s2 90 0 k = s k := fun k hk => by
  by_cases e : k < 30
  · have e1 := cpS_in (s := s2) (o := 90) (q := 0) e
    rw [Nat.zero_add] at e1
    have e2 := cpS_in (s := s) (o := 0) (q := 90) e
    rw [Nat.zero_add] at e2
    rw [e1, h (90 + k) (by omega) (by omega), e2]
  · rw [cpS_out (by omega), h k (by omega) (by omega), cpS_out (by omega)]
def rdOdd (sh : Sh) (j q : Nat) (f : Int32) (p : Nat) : Prop := ∃ q0, sh j = some q0 ∧ q0.1 = q ∧ isGv (f + nI (2 * p)) q0.2 = true
theorem rd_ok {T : Tw} {sh : Sh} {sc : Nat → Nat → Int32} {j q m p : Nat} {f : Int32} (hall : ∀ i, i < p → pairF (szI (sh j)) (laI (sh j)) q f i = 0) (hcf : ∀ i, i < p → conf T (sc j) f.toNatClampNeg i = true) (hp : p ≤ m) (hend : p < m → ¬ pairF (szI (sh j)) (laI (sh j)) q f p = 0) : rdW sh j q f m = p ∧ rdB T (sc j) f.toNatClampNeg p = p := by
  constructor
  · unfold rdW
    rcases Nat.eq_or_lt_of_le hp with e | e
    · rw [← e]; exact fst_all hall
    · exact fst_at e hall (hend e)
  · exact fst_all (fun i hi => if_pos (hcf i hi))
theorem rd_bad {T : Tw} {sh : Sh} {sc : Nat → Nat → Int32} {j q m p : Nat} {f : Int32} (hall : ∀ i, i ≤ p → pairF (szI (sh j)) (laI (sh j)) q f i = 0) (hcf : ∀ i, i < p → conf T (sc j) f.toNatClampNeg i = true) (hp : p < m) (hbad : conf T (sc j) f.toNatClampNeg p = false) : p < rdW sh j q f m ∧ rdB T (sc j) f.toNatClampNeg (rdW sh j q f m) = p := by
  have h1 : p + 1 ≤ rdW sh j q f m := fst_gt m 0 (p + 1) (by omega) (by omega) (fun i _ h2 => hall i (by omega))
  refine ⟨h1, fst_at h1 (fun i hi => if_pos (hcf i hi)) ?_⟩
  rw [if_neg (by rw [hbad]; decide)]
  decide
set_option maxRecDepth 100000 in
set_option maxHeartbeats 4000000 in
theorem f_X7_read {G : gb_G} (hW : gW G) {Q : Option Value → gb_M → Prop} {mM : gb_M} {T : Tw} {im : Nat → Tw} {kp : Nat → Bool} {bs : Nat → Nat} {ln fa : Nat} {st sf : Nat → Nat} {sn : Nat} {sh : Sh} {sc : Nat → Nat → Int32} {tn : Nat} (hok : okS T im kp bs ln fa st sf sn sh tn) (hM : isMW G mM T im kp bs ln fa st sf sn sh sc tn) {k lane f n : Int32}  (hQ : ∀ M', isMW G M' (s_readT T sh sc k lane f n) im kp bs ln fa st sf sn sh sc (s_readN T sh sc tn k lane f n) → sm mM M' 49 60 → Q (some (.int (a_read T sh sc k lane f n))) M') : Fn G 3 yX7_read cX7_read 9 (some .int) [.ref (gb_ad G 49), .int (k), .int (lane), .int (f), .int (n)] mM Q := by
  obtain ⟨s, se, le, rp, te, la, ce, tm, x3, x4, x5, x6, x7, x11, x12, x13, x14, x15, x16, x26, h49, h50, h51, h52, h53, h54, h55, h56, h57, h58, h59, h60, htm, hpg, hIm, hSe, hLa, hLe, hCe⟩ := hM
  have ok := hok.1
  have hn4 := ok.1
  have hst9 := hok.2.1
  have hln := hok.2.2.2.1
  have hsn6 := hok.2.2.2.2.2.2.1
  obtain ⟨fn, hfn⟩ : ∃ fn, f.toNatClampNeg = fn := ⟨_, rfl⟩
  have hN := hW.2.2.1
  refine Fn.of hW.1 [(0, .ref (gb_ad G 49)), (1, .int (k)), (2, .int (lane)), (3, .int (f)), (4, .int (n))] (by decide) (Nat.le_of_ble_eq_true rfl) rfl ?_
  intro X O
  refine w_iload_n (n := 1) O dX7_read_0 rfl rfl rfl ?_
  refine w_i2l (n := 2) O dX7_read_1 rfl ?_
  refine w_lconst (n := 3) O dX7_read_2 (v := lN 0) (by decide) rfl ?_
  refine w_ldc2 (n := 6) O dX7_read_3 uc_X7_202 rfl ?_
  refine w_topl (lN 3) (by decide) ?_
  refine w_cS (n := 9) (ro := some (.int (bI (wIn (k) (nI 0) (nI 3))))) (R := fun mM' => mM = mM') (st := []) (st1 := [.int (bI (wIn (k) (nI 0) (nI 3)))]) (As := [.long ((k).toInt64), .long (lN 0), .long (lN 3)]) O dX7_read_6 ul_X7_50 um_X7_in (f_X7_in (x := (k)) (y := (nI 0)) (z := (nI 3)) hW rfl (nI_l (by decide)).symm (nI_l (by decide)).symm ⟨rfl, rfl⟩) rfl rfl rfl (by decide) (Nat.le_of_ble_eq_true rfl) rfl (fun mhM_1 hM_1 => ?_)
  subst hM_1
  refine w_if_eqB (n := 12) (tgt := 37) O dX7_read_9 (by decide) rfl (fun c_2 => ?_) (fun c_2 => ?_)
  · skip
    refine w_iconst (n := 38) O dX7_read_37 (v := (-1)) (by decide) rfl ?_
    refine w_iret O dX7_read_38 ?_
    have e0 : a_read T sh sc k lane f n = -1 := by unfold a_read; rw [if_neg (by rw [show rdOk k lane n = false from by simp [rdOk, c_2]]; decide)]
    have e1 : s_readT T sh sc k lane f n = T := by unfold s_readT; rw [if_neg (fun z9 => by rw [show rdOk k lane n = false from by simp [rdOk, c_2]] at z9; exact absurd z9.1 (by decide))]
    have e2 : s_readN T sh sc tn k lane f n = tn := by unfold s_readN; rw [if_neg (fun z9 => by rw [show rdOk k lane n = false from by simp [rdOk, c_2]] at z9; exact absurd z9.1 (by decide))]
    rw [e0, e1, e2] at hQ
    try dsimp only at hQ
    exact hQ (mM) ⟨_, _, _, _, _, _, _, _, _, _, _, _, _, _, _, _, _, _, _, _, h49, h50, h51, h52, h53, h54, h55, h56, h57, h58, h59, h60, htm, hpg, hIm, hSe, hLa, hLe, hCe⟩ sm.rf
  · skip
    have hr_j := c_2
    obtain ⟨j, ja, jb, rfl⟩ := wIn_t (by omega) c_2 (by omega)
    have cl_j : (nI j).toNatClampNeg = j := nI_clamp (by omega)
    refine w_iload_n (n := 13) O dX7_read_12 rfl rfl rfl ?_
    refine w_i2l (n := 14) O dX7_read_13 rfl ?_
    refine w_lconst (n := 15) O dX7_read_14 (v := lN 0) (by decide) rfl ?_
    refine w_ldc2 (n := 18) O dX7_read_15 uc_X7_142 rfl ?_
    refine w_topl (lN 2) (by decide) ?_
    refine w_cS (n := 21) (ro := some (.int (bI (wIn (lane) (nI 0) (nI 2))))) (R := fun mM' => mM = mM') (st := []) (st1 := [.int (bI (wIn (lane) (nI 0) (nI 2)))]) (As := [.long ((lane).toInt64), .long (lN 0), .long (lN 2)]) O dX7_read_18 ul_X7_50 um_X7_in (f_X7_in (x := (lane)) (y := (nI 0)) (z := (nI 2)) hW rfl (nI_l (by decide)).symm (nI_l (by decide)).symm ⟨rfl, rfl⟩) rfl rfl rfl (by decide) (Nat.le_of_ble_eq_true rfl) rfl (fun mhM_3 hM_3 => ?_)
    subst hM_3
    refine w_if_eqB (n := 24) (tgt := 37) O dX7_read_21 (by decide) rfl (fun c_4 => ?_) (fun c_4 => ?_)
    · skip
      refine w_iconst (n := 38) O dX7_read_37 (v := (-1)) (by decide) rfl ?_
      refine w_iret O dX7_read_38 ?_
      have e0 : a_read T sh sc (nI j) lane f n = -1 := by unfold a_read; rw [if_neg (by rw [show rdOk (nI j) lane n = false from by simp [rdOk, c_4]]; decide)]
      have e1 : s_readT T sh sc (nI j) lane f n = T := by unfold s_readT; rw [if_neg (fun z9 => by rw [show rdOk (nI j) lane n = false from by simp [rdOk, c_4]] at z9; exact absurd z9.1 (by decide))]
      have e2 : s_readN T sh sc tn (nI j) lane f n = tn := by unfold s_readN; rw [if_neg (fun z9 => by rw [show rdOk (nI j) lane n = false from by simp [rdOk, c_4]] at z9; exact absurd z9.1 (by decide))]
      rw [e0, e1, e2] at hQ
      try dsimp only at hQ
      exact hQ (mM) ⟨_, _, _, _, _, _, _, _, _, _, _, _, _, _, _, _, _, _, _, _, h49, h50, h51, h52, h53, h54, h55, h56, h57, h58, h59, h60, htm, hpg, hIm, hSe, hLa, hLe, hCe⟩ sm.rf
    · skip
      have hr_q := c_4
      obtain ⟨q, qa, qb, rfl⟩ := wIn_t (by omega) c_4 (by omega)
      have cl_q : (nI q).toNatClampNeg = q := nI_clamp (by omega)
      refine w_iload (n := 26) O dX7_read_24 rfl rfl ?_
      refine w_i2l (n := 27) O dX7_read_26 rfl ?_
      refine w_lconst (n := 28) O dX7_read_27 (v := lN 0) (by decide) rfl ?_
      refine w_ldc2 (n := 31) O dX7_read_28 uc_X7_263 rfl ?_
      refine w_topl (lN 20) (by decide) ?_
      refine w_cS (n := 34) (ro := some (.int (bI (wIn (n) (nI 0) (nI 20))))) (R := fun mM' => mM = mM') (st := []) (st1 := [.int (bI (wIn (n) (nI 0) (nI 20)))]) (As := [.long ((n).toInt64), .long (lN 0), .long (lN 20)]) O dX7_read_31 ul_X7_50 um_X7_in (f_X7_in (x := (n)) (y := (nI 0)) (z := (nI 20)) hW rfl (nI_l (by decide)).symm (nI_l (by decide)).symm ⟨rfl, rfl⟩) rfl rfl rfl (by decide) (Nat.le_of_ble_eq_true rfl) rfl (fun mhM_5 hM_5 => ?_)
      subst hM_5
      refine w_if_neB (n := 37) (tgt := 39) O dX7_read_34 (by decide) rfl (fun c_6 => ?_) (fun c_6 => ?_)
      · skip
        have hr_m := c_6
        obtain ⟨m, ma, mb, rfl⟩ := wIn_t (by omega) c_6 (by omega)
        have cl_m : (nI m).toNatClampNeg = m := nI_clamp (by omega)
        refine w_aload_n (n := 40) O dX7_read_39 rfl rfl rfl ?_
        refine w_iconst (n := 41) O dX7_read_40 (v := (nI 0)) (by decide) rfl ?_
        refine w_bipush (n := 43) O dX7_read_41 (v := (nI 90)) (by decide) rfl ?_
        refine w_cV (n := 46) (ro := none) (R := fun mM' => mM' 50 = IA G 150 (pgI (cpS s 0 90)) ∧ sm mM mM' 50 50) (st := []) (st1 := []) (As := [.int (nI 0), .int (nI 90)]) (b := 49) O dX7_read_43 ul_X7_224 um_X7_copies (f_X7_copies (s := s) (T := T) (lo := 0) (li := 0) (to := none) (tm := tm) hW ⟨h50, hpg, _, _, _, _, _, _, _, _, _, _, _, _, _, _, _, _, h49⟩ (by omega) (by omega) (by omega) (by omega) (by omega) (fun M' h1 h2 => ⟨rfl, h1, h2⟩)) rfl (by omega) h49 rfl rfl rfl rfl (by decide) (Nat.le_of_ble_eq_true rfl) rfl (fun mhM_7 hM_7 => ?_)
        obtain ⟨hphM_7, hshM_7⟩ := hM_7
        refine w_iconst (n := 47) O dX7_read_46 (v := (nI 0)) (by decide) rfl ?_
        refine w_istore (n := 49) (lv' := [(5, .int (nI 0)), (0, .ref (gb_ad G 49)), (1, .int (nI (j))), (2, .int (nI (q))), (3, .int (f)), (4, .int (nI (m)))]) O dX7_read_47 (by decide) rfl rfl ?_
        refine w_iconst (n := 50) O dX7_read_49 (v := (nI 0)) (by decide) rfl ?_
        refine w_istore (n := 52) (lv' := [(6, .int (nI 0)), (5, .int (nI 0)), (0, .ref (gb_ad G 49)), (1, .int (nI (j))), (2, .int (nI (q))), (3, .int (f)), (4, .int (nI (m)))]) O dX7_read_50 (by decide) rfl rfl ?_
        refine w_iconst (n := 53) O dX7_read_52 (v := (nI 0)) (by decide) rfl ?_
        refine w_istore (n := 55) (lv' := [(7, .int (nI 0)), (6, .int (nI 0)), (5, .int (nI 0)), (0, .ref (gb_ad G 49)), (1, .int (nI (j))), (2, .int (nI (q))), (3, .int (f)), (4, .int (nI (m)))]) O dX7_read_53 (by decide) rfl rfl ?_
        have RD : ∀ (k : Nat) (i p by9 : Nat) (s1 : Nat → Nat) (m1 : gb_M), 2 * m + 1 - i = k → i ≤ 2 * m → p ≤ m → (∀ i2, i2 < p → pairF (szI (sh j)) (laI (sh j)) q f i2 = 0) → (∀ i2, i2 < p → conf T (sc j) fn i2 = true) → (by9 = 0 → p = i / 2) → (by9 = 0 → i % 2 = 1 → rdOdd sh j q f p) → (by9 = 0 → 0 < i → f = nI fn ∧ fn + i ≤ 40) → (¬ by9 = 0 → p < m ∧ pairF (szI (sh j)) (laI (sh j)) q f p = by9) → m1 50 = IA G 150 (pgI s1) → pg0 s1 (rdT T (sc j) fn p) → (∀ k2, 30 ≤ k2 → k2 < 150 → s1 k2 = cpS s 0 90 k2) → sm mM m1 50 50 → Wm G X 9 Q 55 [(0, .ref (gb_ad G 49)), (1, .int (nI (j))), (2, .int (nI (q))), (3, .int (f)), (4, .int (nI (m))), (5, .int (nI (by9))), (6, .int (nI (p))), (7, .int (nI (i)))] [] m1 := by
          intro k
          induction k using Nat.strongRecOn with
          | ind k ih_RD =>
            intro i p by9 s1 m1 hk hi hpm hall hcf hb0 hb1 hb2 hbn h501 hpg1 hag hs1
            have hrk := rdT_ok (i := p) (fn := fn) (r := sc j) ok hcf
            have h491 : m1 49 = (.inr (7, [.ref (gb_ad G 50), .int (nI ((rdT T (sc j) fn p).2.2.2.1)), .ref (gb_ad G 51), .int (x3), .int (x4), .int (x5), .int (x6), .int (x7), .ref (gb_ad G 52), .int (nI (ln)), .int (nI (fa)), .int (x11), .int (x12), .int (x13), .int (x14), .int (x15), .int (x16), .ref (gb_ad G 53), .ref (gb_ad G 54), .int (nI 0), .int (nI 0), .int (oI none), .int (nI (tm)), .ref (gb_ad G 55), .int (nI (sn)), .ref (gb_ad G 56), .int (x26), .ref (gb_ad G 57), .ref (gb_ad G 58), .ref (gb_ad G 59), .ref (gb_ad G 60), .int (nI (tn))])) := by rw [hrk.2]; exact (hs1 49 (by omega)).trans h49
            have hgn : (rdT T (sc j) fn p).2.2.2.1 = T.2.2.2.1 := by rw [hrk.2]
            have hby : by9 ≤ 3 := by by_cases z : by9 = 0; omega; (rw [← (hbn z).2]; exact pfl_le _ _ _ _)
            refine w_iload (n := 57) O dX7_read_55 rfl rfl ?_
            refine w_iconst (n := 58) O dX7_read_57 (v := (nI 2)) (by decide) rfl ?_
            refine w_iload (n := 60) O dX7_read_58 rfl rfl ?_
            refine w_imulN (n := 61) O dX7_read_60 rfl ?_
            refine w_icmp_geN (n := 64) (tgt := 197) O dX7_read_61 (by omega) (by omega) (by decide) rfl (fun c_8 => ?_) (fun c_8 => ?_)
            · skip
              refine w_aload_n (n := 198) O dX7_read_197 rfl rfl rfl ?_
              refine w_iload (n := 200) O dX7_read_198 rfl rfl ?_
              refine w_putf (n := 203) (fs' := [.ref (gb_ad G 50), .int (nI ((rdT T (sc j) fn p).2.2.2.1)), .ref (gb_ad G 51), .int (x3), .int (x4), .int (x5), .int (x6), .int (x7), .ref (gb_ad G 52), .int (nI (ln)), .int (nI (fa)), .int (x11), .int (x12), .int (x13), .int (x14), .int (x15), .int (x16), .ref (gb_ad G 53), .ref (gb_ad G 54), .int (nI 0), .int (nI 0), .int (oI none), .int (nI (tm)), .ref (gb_ad G 55), .int (nI (sn)), .ref (gb_ad G 56), .int (x26), .ref (gb_ad G 57), .ref (gb_ad G 58), .ref (gb_ad G 59), .ref (gb_ad G 60), .int (nI (by9))]) O 31 dX7_read_200 (by omega) h491 rfl (by decide) uX7 uf_X7_268 tyX7 tyX7_ok nmX7 rfl rfl rfl (Nat.le_of_ble_eq_true rfl) rfl rfl ?_
              refine w_iload (n := 205) O dX7_read_203 rfl rfl ?_
              refine w_iret O dX7_read_205 ?_
              have hrk9 : rdOk (nI j) (nI q) (nI m) = true := by unfold rdOk; rw [hr_j, hr_q, hr_m]; rfl
              have eWh : rdWh sh (nI j) (nI q) f (nI m) = rdW sh j q f m := by unfold rdWh; rw [cl_j, cl_q, cl_m]
              have eBd : rdBd T sh sc (nI j) (nI q) f (nI m) = rdB T (sc j) f.toNatClampNeg (rdW sh j q f m) := by unfold rdBd; rw [eWh, cl_j]
              have hend : p < m → ¬ pairF (szI (sh j)) (laI (sh j)) q f p = 0 := fun h9 z9 => by by_cases z : by9 = 0; (have := hb0 z; omega); (rw [(hbn z).2] at z9; exact z z9)
              obtain ⟨hw1, hw2⟩ := rd_ok (T := T) (m := m) (sh := sh) (sc := sc) (j := j) (q := q) (p := p) (f := f) hall (by rw [hfn]; exact hcf) hpm hend
              have htn : (if p < m then pairF (szI (sh j)) (laI (sh j)) q f p else 0) = by9 := by by_cases z : by9 = 0; (have := hb0 z; rw [if_neg (by omega), z]); (rw [if_pos (hbn z).1]; exact (hbn z).2)
              have e0 : a_read T sh sc (nI j) (nI q) f (nI m) = (nI (p)) := by unfold a_read; rw [if_pos hrk9, eBd, eWh, hw1, hw2, if_neg (Nat.lt_irrefl _)]
              have e1 : s_readT T sh sc (nI j) (nI q) f (nI m) = (rdT T (sc j) fn p) := by unfold s_readT; rw [eBd, eWh, hw1, hw2, if_pos ⟨hrk9, Nat.lt_irrefl _⟩, cl_j, hfn]
              have e2 : s_readN T sh sc tn (nI j) (nI q) f (nI m) = by9 := by unfold s_readN; rw [eBd, eWh, hw1, hw2, if_pos ⟨hrk9, Nat.lt_irrefl _⟩, cl_j, cl_q, cl_m]; exact htn
              rw [e0, e1, e2] at hQ
              try dsimp only at hQ
              exact hQ ((va_up m1 (49) (.inr (7, [.ref (gb_ad G 50), .int (nI ((rdT T (sc j) fn p).2.2.2.1)), .ref (gb_ad G 51), .int (x3), .int (x4), .int (x5), .int (x6), .int (x7), .ref (gb_ad G 52), .int (nI (ln)), .int (nI (fa)), .int (x11), .int (x12), .int (x13), .int (x14), .int (x15), .int (x16), .ref (gb_ad G 53), .ref (gb_ad G 54), .int (nI 0), .int (nI 0), .int (oI none), .int (nI (tm)), .ref (gb_ad G 55), .int (nI (sn)), .ref (gb_ad G 56), .int (x26), .ref (gb_ad G 57), .ref (gb_ad G 58), .ref (gb_ad G 59), .ref (gb_ad G 60), .int (nI (by9))])))) ⟨_, _, _, _, _, _, _, _, _, _, _, _, _, _, _, _, _, _, _, _, (va_up_self _ _ _), ((va_up_ne _ _ (by decide)).trans h501), ((va_up_ne _ _ (by decide)).trans ((hs1 (51) (by omega)).trans h51)), ((va_up_ne _ _ (by decide)).trans ((hs1 (52) (by omega)).trans h52)), ((va_up_ne _ _ (by decide)).trans ((hs1 (53) (by omega)).trans h53)), ((va_up_ne _ _ (by decide)).trans ((hs1 (54) (by omega)).trans h54)), ((va_up_ne _ _ (by decide)).trans ((hs1 (55) (by omega)).trans h55)), ((va_up_ne _ _ (by decide)).trans ((hs1 (56) (by omega)).trans h56)), ((va_up_ne _ _ (by decide)).trans ((hs1 (57) (by omega)).trans h57)), ((va_up_ne _ _ (by decide)).trans ((hs1 (58) (by omega)).trans h58)), ((va_up_ne _ _ (by decide)).trans ((hs1 (59) (by omega)).trans h59)), ((va_up_ne _ _ (by decide)).trans ((hs1 (60) (by omega)).trans h60)), htm, hpg1, (imK3 hIm (fun k2 h1 h2 => (hag k2 h1 (by omega)).trans (cpS_out (by omega)))), hSe, hLa, hLe, hCe⟩ ((sm.rf.tr (hs1.mono (by omega) (by omega))).up (by omega) (by omega))
            · skip
              refine w_iload (n := 66) O dX7_read_64 rfl rfl ?_
              refine w_if_neN (n := 69) (tgt := 197) O dX7_read_66 (by omega) (by decide) rfl (fun c_9 => ?_) (fun c_9 => ?_)
              · skip
                refine w_aload_n (n := 198) O dX7_read_197 rfl rfl rfl ?_
                refine w_iload (n := 200) O dX7_read_198 rfl rfl ?_
                refine w_putf (n := 203) (fs' := [.ref (gb_ad G 50), .int (nI ((rdT T (sc j) fn p).2.2.2.1)), .ref (gb_ad G 51), .int (x3), .int (x4), .int (x5), .int (x6), .int (x7), .ref (gb_ad G 52), .int (nI (ln)), .int (nI (fa)), .int (x11), .int (x12), .int (x13), .int (x14), .int (x15), .int (x16), .ref (gb_ad G 53), .ref (gb_ad G 54), .int (nI 0), .int (nI 0), .int (oI none), .int (nI (tm)), .ref (gb_ad G 55), .int (nI (sn)), .ref (gb_ad G 56), .int (x26), .ref (gb_ad G 57), .ref (gb_ad G 58), .ref (gb_ad G 59), .ref (gb_ad G 60), .int (nI (by9))]) O 31 dX7_read_200 (by omega) h491 rfl (by decide) uX7 uf_X7_268 tyX7 tyX7_ok nmX7 rfl rfl rfl (Nat.le_of_ble_eq_true rfl) rfl rfl ?_
                refine w_iload (n := 205) O dX7_read_203 rfl rfl ?_
                refine w_iret O dX7_read_205 ?_
                have hrk9 : rdOk (nI j) (nI q) (nI m) = true := by unfold rdOk; rw [hr_j, hr_q, hr_m]; rfl
                have eWh : rdWh sh (nI j) (nI q) f (nI m) = rdW sh j q f m := by unfold rdWh; rw [cl_j, cl_q, cl_m]
                have eBd : rdBd T sh sc (nI j) (nI q) f (nI m) = rdB T (sc j) f.toNatClampNeg (rdW sh j q f m) := by unfold rdBd; rw [eWh, cl_j]
                have hend : p < m → ¬ pairF (szI (sh j)) (laI (sh j)) q f p = 0 := fun h9 z9 => by by_cases z : by9 = 0; (have := hb0 z; omega); (rw [(hbn z).2] at z9; exact z z9)
                obtain ⟨hw1, hw2⟩ := rd_ok (T := T) (m := m) (sh := sh) (sc := sc) (j := j) (q := q) (p := p) (f := f) hall (by rw [hfn]; exact hcf) hpm hend
                have htn : (if p < m then pairF (szI (sh j)) (laI (sh j)) q f p else 0) = by9 := by by_cases z : by9 = 0; (have := hb0 z; rw [if_neg (by omega), z]); (rw [if_pos (hbn z).1]; exact (hbn z).2)
                have e0 : a_read T sh sc (nI j) (nI q) f (nI m) = (nI (p)) := by unfold a_read; rw [if_pos hrk9, eBd, eWh, hw1, hw2, if_neg (Nat.lt_irrefl _)]
                have e1 : s_readT T sh sc (nI j) (nI q) f (nI m) = (rdT T (sc j) fn p) := by unfold s_readT; rw [eBd, eWh, hw1, hw2, if_pos ⟨hrk9, Nat.lt_irrefl _⟩, cl_j, hfn]
                have e2 : s_readN T sh sc tn (nI j) (nI q) f (nI m) = by9 := by unfold s_readN; rw [eBd, eWh, hw1, hw2, if_pos ⟨hrk9, Nat.lt_irrefl _⟩, cl_j, cl_q, cl_m]; exact htn
                rw [e0, e1, e2] at hQ
                try dsimp only at hQ
                exact hQ ((va_up m1 (49) (.inr (7, [.ref (gb_ad G 50), .int (nI ((rdT T (sc j) fn p).2.2.2.1)), .ref (gb_ad G 51), .int (x3), .int (x4), .int (x5), .int (x6), .int (x7), .ref (gb_ad G 52), .int (nI (ln)), .int (nI (fa)), .int (x11), .int (x12), .int (x13), .int (x14), .int (x15), .int (x16), .ref (gb_ad G 53), .ref (gb_ad G 54), .int (nI 0), .int (nI 0), .int (oI none), .int (nI (tm)), .ref (gb_ad G 55), .int (nI (sn)), .ref (gb_ad G 56), .int (x26), .ref (gb_ad G 57), .ref (gb_ad G 58), .ref (gb_ad G 59), .ref (gb_ad G 60), .int (nI (by9))])))) ⟨_, _, _, _, _, _, _, _, _, _, _, _, _, _, _, _, _, _, _, _, (va_up_self _ _ _), ((va_up_ne _ _ (by decide)).trans h501), ((va_up_ne _ _ (by decide)).trans ((hs1 (51) (by omega)).trans h51)), ((va_up_ne _ _ (by decide)).trans ((hs1 (52) (by omega)).trans h52)), ((va_up_ne _ _ (by decide)).trans ((hs1 (53) (by omega)).trans h53)), ((va_up_ne _ _ (by decide)).trans ((hs1 (54) (by omega)).trans h54)), ((va_up_ne _ _ (by decide)).trans ((hs1 (55) (by omega)).trans h55)), ((va_up_ne _ _ (by decide)).trans ((hs1 (56) (by omega)).trans h56)), ((va_up_ne _ _ (by decide)).trans ((hs1 (57) (by omega)).trans h57)), ((va_up_ne _ _ (by decide)).trans ((hs1 (58) (by omega)).trans h58)), ((va_up_ne _ _ (by decide)).trans ((hs1 (59) (by omega)).trans h59)), ((va_up_ne _ _ (by decide)).trans ((hs1 (60) (by omega)).trans h60)), htm, hpg1, (imK3 hIm (fun k2 h1 h2 => (hag k2 h1 (by omega)).trans (cpS_out (by omega)))), hSe, hLa, hLe, hCe⟩ ((sm.rf.tr (hs1.mono (by omega) (by omega))).up (by omega) (by omega))
              · skip
                have hpi := hb0 c_9
                have hodd := hb1 c_9
                have hfi := hb2 c_9
                refine w_aload_n (n := 70) O dX7_read_69 rfl rfl rfl ?_
                refine w_getf (n := 73) O 28 dX7_read_70 (by omega) h491 rfl (by decide) uX7 uf_X7_39 rfl rfl ?_
                refine w_iload_n (n := 74) O dX7_read_73 rfl rfl rfl ?_
                refine w_ialdA (n := 75) O dX7_read_74 hW.2.1 (by omega) ((hs1 (58) (by omega)).trans h58) (by omega) (by decide) rfl ?_
                refine w_top (laM (sh j)) (hLa j (by omega)) ?_
                refine w_bipush (n := 77) O dX7_read_75 (v := (-4)) (by decide) rfl ?_
                refine w_icmp_ne (n := 80) (tgt := 84) O dX7_read_77 (by decide) rfl (fun c_10 => ?_) (fun c_10 => ?_)
                · skip
                  obtain ⟨q0, hq0⟩ := laM_s c_10
                  have hqb := hok.2.2.2.2.2.2.2.2.1 j (by omega) q0 hq0
                  have hle0 := hLe j (by omega) q0 hq0
                  have hla0 : la j = nI q0.1 := by rw [hLa j (by omega), hq0]; rfl
                  refine w_aload_n (n := 85) O dX7_read_84 rfl rfl rfl ?_
                  refine w_getf (n := 88) O 28 dX7_read_85 (by omega) h491 rfl (by decide) uX7 uf_X7_39 rfl rfl ?_
                  refine w_iload_n (n := 89) O dX7_read_88 rfl rfl rfl ?_
                  refine w_ialdA (n := 90) O dX7_read_89 hW.2.1 (by omega) ((hs1 (58) (by omega)).trans h58) (by omega) (by decide) rfl ?_
                  refine w_top (nI q0.1) hla0 ?_
                  refine w_iload_n (n := 91) O dX7_read_90 rfl rfl rfl ?_
                  refine w_icmp_eqN (n := 94) (tgt := 98) O dX7_read_91 (by omega) (by omega) (by decide) rfl (fun c_11 => ?_) (fun c_11 => ?_)
                  · skip
                    have heq := c_11
                    have hadd := add64 (fn := fn) hfi
                    refine w_iload_n (n := 99) O dX7_read_98 rfl rfl rfl ?_
                    refine w_i2l (n := 100) O dX7_read_99 rfl ?_
                    refine w_iload (n := 102) O dX7_read_100 rfl rfl ?_
                    refine w_i2l (n := 103) O dX7_read_102 rfl ?_
                    refine w_ladd (n := 104) O dX7_read_103 rfl ?_
                    refine w_lconst (n := 105) O dX7_read_104 (v := lN 0) (by decide) rfl ?_
                    refine w_aload_n (n := 106) O dX7_read_105 rfl rfl rfl ?_
                    refine w_getf (n := 109) O 29 dX7_read_106 (by omega) h491 rfl (by decide) uX7 uf_X7_42 rfl rfl ?_
                    refine w_iload_n (n := 110) O dX7_read_109 rfl rfl rfl ?_
                    refine w_ialdN (n := 111) O dX7_read_110 hW.2.1 (by omega) ((hs1 (59) (by omega)).trans h59) (by omega) (by decide) rfl ?_
                    refine w_top (nI q0.2) (by rw [hle0]) ?_
                    refine w_iconst (n := 112) O dX7_read_111 (v := (nI 1)) (by decide) rfl ?_
                    refine w_isub (n := 113) O dX7_read_112 rfl ?_
                    refine w_i2l (n := 114) O dX7_read_113 rfl ?_
                    refine w_cS (n := 117) (ro := some (.int (bI (isGv (f + nI i) q0.2)))) (R := fun mM' => m1 = mM') (st := []) (st1 := [.int (bI (isGv (f + nI i) q0.2))]) (As := [.long (((f).toInt64 + (nI (i)).toInt64)), .long (lN 0), .long ((((nI (q0.2)) - (nI (1)))).toInt64)]) O dX7_read_114 ul_X7_50 um_X7_in (f_X7_in (x := (f + nI i)) (y := (nI 0)) (z := (nI q0.2 - nI 1)) hW hadd (nI_l (by decide)).symm rfl ⟨rfl, rfl⟩) rfl rfl rfl (by decide) (Nat.le_of_ble_eq_true rfl) rfl (fun mhM_12 hM_12 => ?_)
                    subst hM_12
                    refine w_if_neB (n := 120) (tgt := 124) O dX7_read_117 (by decide) rfl (fun c_13 => ?_) (fun c_13 => ?_)
                    · skip
                      have hfs := f_small hfn hqb.2 hfi c_13
                      refine w_iconst (n := 125) O dX7_read_124 (v := (nI 0)) (by decide) rfl ?_
                      refine w_istore (n := 127) (lv' := [(5, .int (nI 0)), (0, .ref (gb_ad G 49)), (1, .int (nI (j))), (2, .int (nI (q))), (3, .int (f)), (4, .int (nI (m))), (6, .int (nI (p))), (7, .int (nI (i)))]) O dX7_read_125 (by decide) rfl rfl ?_
                      refine w_iload (n := 129) O dX7_read_127 rfl rfl ?_
                      refine w_if_neN (n := 132) (tgt := 191) O dX7_read_129 (by omega) (by decide) rfl (fun c_14 => by omega) (fun c_14 => ?_)
                      refine w_iload (n := 134) O dX7_read_132 rfl rfl ?_
                      refine w_iconst (n := 135) O dX7_read_134 (v := (nI 2)) (by decide) rfl ?_
                      refine w_iremN (n := 136) O dX7_read_135 (by omega) (by omega) (by omega) rfl ?_
                      refine w_iconst (n := 137) O dX7_read_136 (v := (nI 1)) (by decide) rfl ?_
                      refine w_icmp_neN (n := 140) (tgt := 191) O dX7_read_137 (by omega) (by omega) (by decide) rfl (fun c_15 => ?_) (fun c_15 => ?_)
                      · skip
                        refine w_iincN (n := 194) (lv' := [(7, .int (nI (i + 1))), (5, .int (nI 0)), (0, .ref (gb_ad G 49)), (1, .int (nI (j))), (2, .int (nI (q))), (3, .int (f)), (4, .int (nI (m))), (6, .int (nI (p)))]) O dX7_read_191 rfl (by decide) rfl rfl ?_
                        refine w_goto (tgt := 55) O dX7_read_194 (by decide) ?_
                        refine w_lv (lv2 := [(0, .ref (gb_ad G 49)), (1, .int (nI (j))), (2, .int (nI (q))), (3, .int (f)), (4, .int (nI (m))), (5, .int (nI 0)), (6, .int (nI (p))), (7, .int (nI (i + 1)))]) [2, 3, 4, 5, 6, 1, 7, 0] rfl ?_
                        exact ih_RD _ (by omega) (i + 1) p 0 s1 _ rfl (by omega) (by omega) hall hcf (fun _ => by omega) (fun _ z => ⟨q0, hq0, heq, by rw [show 2 * p = i by omega]; exact c_13⟩) (fun _ _ => ⟨hfs.1, by omega⟩) (fun z => absurd rfl z) h501 hpg1 hag hs1
                      · skip
                        rw [hfs.1]
                        obtain ⟨q1, e1, e2, e3⟩ := hodd c_15
                        rw [hq0] at e1
                        cases e1
                        have hpz : pairF (szI (sh j)) (laI (sh j)) q f p = 0 := by rw [hq0]; exact (pf_c2 (i := i) (by omega) heq hqb.2 e3 c_13).trans (if_pos rfl)
                        refine w_bipush (n := 142) O dX7_read_140 (v := (nI 40)) (by decide) rfl ?_
                        refine w_iload_n (n := 143) O dX7_read_142 rfl rfl rfl ?_
                        refine w_imulN (n := 144) O dX7_read_143 rfl ?_
                        refine w_iload_n (n := 145) O dX7_read_144 rfl rfl rfl ?_
                        refine w_iaddN (n := 146) O dX7_read_145 rfl ?_
                        refine w_iload (n := 148) O dX7_read_146 rfl rfl ?_
                        refine w_iaddN (n := 149) O dX7_read_148 rfl ?_
                        refine w_istore (n := 151) (lv' := [(8, .int (nI ((((40 * j) + fn) + i)))), (5, .int (nI 0)), (0, .ref (gb_ad G 49)), (1, .int (nI (j))), (2, .int (nI (q))), (3, .int (nI (fn))), (4, .int (nI (m))), (6, .int (nI (p))), (7, .int (nI (i)))]) O dX7_read_149 (by decide) rfl rfl ?_
                        refine w_aload_n (n := 152) O dX7_read_151 rfl rfl rfl ?_
                        refine w_aload_n (n := 153) O dX7_read_152 rfl rfl rfl ?_
                        refine w_getf (n := 156) O 30 dX7_read_153 (by omega) h491 rfl (by decide) uX7 uf_X7_45 rfl rfl ?_
                        refine w_iload (n := 158) O dX7_read_156 rfl rfl ?_
                        refine w_iconst (n := 159) O dX7_read_158 (v := (nI 1)) (by decide) rfl ?_
                        refine w_isubN (n := 160) O dX7_read_159 (by omega) rfl ?_
                        refine w_ialdA (n := 161) O dX7_read_160 hW.2.1 (by omega) ((hs1 (60) (by omega)).trans h60) (by omega) (by decide) rfl ?_
                        refine w_top (sc j (fn + 2 * p)) (by rw [show 40 * j + fn + i - 1 = 40 * j + (fn + 2 * p) by omega]; exact hCe j (by omega) (fn + 2 * p) (by omega)) ?_
                        refine w_iconst (n := 162) O dX7_read_161 (v := (nI 1)) (by decide) rfl ?_
                        refine w_aload_n (n := 163) O dX7_read_162 rfl rfl rfl ?_
                        refine w_getf (n := 166) O 30 dX7_read_163 (by omega) h491 rfl (by decide) uX7 uf_X7_45 rfl rfl ?_
                        refine w_iload (n := 168) O dX7_read_166 rfl rfl ?_
                        refine w_ialdA (n := 169) O dX7_read_168 hW.2.1 (by omega) ((hs1 (60) (by omega)).trans h60) (by omega) (by decide) rfl ?_
                        refine w_top (sc j (fn + 2 * p + 1)) (by rw [show 40 * j + fn + i = 40 * j + (fn + 2 * p + 1) by omega]; exact hCe j (by omega) (fn + 2 * p + 1) (by omega)) ?_
                        by_cases hcT : conf T (sc j) fn p = true
                        · skip
                          have hc2 := hcT
                          unfold conf at hc2
                          rw [Bool.and_eq_true] at hc2
                          obtain ⟨g1, hg1, eg1⟩ := isGv_t (by omega) hc2.1
                          obtain ⟨v1, -, hv9, ev1⟩ := wIn_t (by decide) hc2.2 (by decide)
                          have hv1 := hc2.2
                          rw [ev1] at hv1
                          rw [eg1, ev1]
                          have hkg := hrk.1.2.1 g1 (by omega)
                          refine w_cV (n := 172) (ro := some (.int (nI ((rdT T (sc j) fn p).1 (g1 * 6 + 1))))) (R := fun mM' => mM' 50 = IA G 150 (pgI (upN s1 (4 + g1) v1)) ∧ sm m1 mM' 50 50) (st := []) (st1 := [.int (nI ((rdT T (sc j) fn p).1 (g1 * 6 + 1)))]) (As := [.int (nI (g1)), .int (nI 1), .int (nI (v1))]) (b := 49) O dX7_read_169 ul_X7_265 um_X7_alter (f_X7_alterG (s := s1) (T := (rdT T (sc j) fn p)) (lo := 0) (li := 0) (to := none) (tm := tm) hW ⟨h501, hpg1, _, _, _, _, _, _, _, _, _, _, _, _, _, _, _, _, h491⟩ hrk.1 (by omega) hv1 (fun M' h1 h2 => ⟨rfl, h1, h2⟩)) rfl (by omega) h491 rfl rfl rfl rfl (by decide) (Nat.le_of_ble_eq_true rfl) rfl (fun mhM_16 hM_16 => ?_)
                          obtain ⟨hphM_16, hshM_16⟩ := hM_16
                          refine w_if_geN (n := 175) (tgt := 188) O dX7_read_172 (by omega) (by decide) rfl ?_
                          refine w_iincN (n := 191) (lv' := [(6, .int (nI (p + 1))), (8, .int (nI ((((40 * j) + fn) + i)))), (5, .int (nI 0)), (0, .ref (gb_ad G 49)), (1, .int (nI (j))), (2, .int (nI (q))), (3, .int (nI (fn))), (4, .int (nI (m))), (7, .int (nI (i)))]) O dX7_read_188 rfl (by decide) rfl rfl ?_
                          refine w_iincN (n := 194) (lv' := [(7, .int (nI (i + 1))), (6, .int (nI (p + 1))), (8, .int (nI ((((40 * j) + fn) + i)))), (5, .int (nI 0)), (0, .ref (gb_ad G 49)), (1, .int (nI (j))), (2, .int (nI (q))), (3, .int (nI (fn))), (4, .int (nI (m)))]) O dX7_read_191 rfl (by decide) rfl rfl ?_
                          refine w_goto (tgt := 55) O dX7_read_194 (by decide) ?_
                          rw [← hfs.1]
                          refine w_lv (lv2 := [(0, .ref (gb_ad G 49)), (1, .int (nI (j))), (2, .int (nI (q))), (3, .int (f)), (4, .int (nI (m))), (5, .int (nI 0)), (6, .int (nI (p + 1))), (7, .int (nI (i + 1)))]) [4, 5, 6, 7, 8, 3, 1, 0] rfl ?_
                          exact ih_RD _ (by omega) (i + 1) (p + 1) 0 _ _ rfl (by omega) (by omega) (fun i2 hi2 => by rcases Nat.lt_or_ge i2 p with z | z; exact hall i2 z; rw [show i2 = p by omega]; exact hpz) (fun i2 hi2 => by rcases Nat.lt_or_ge i2 p with z | z; exact hcf i2 z; rw [show i2 = p by omega]; exact hcT) (fun _ => by omega) (fun _ z => absurd z (by omega)) (fun _ _ => ⟨hfs.1, by omega⟩) (fun z => absurd rfl z) hphM_16 (by show pg0 _ (upN (rdT T (sc j) fn p).1 ((sc j (fn + 2 * p)).toNatClampNeg * 6 + 1) (sc j (fn + 2 * p + 1)).toNatClampNeg, (rdT T (sc j) fn p).2); rw [eg1, ev1, nI_clamp (by omega), nI_clamp (by omega)]; exact (pg_gu hpg1 (by omega))) (fun k2 h1 h2 => (upN_ne _ _ (by omega)).trans (hag k2 h1 h2)) ((sm.rf.tr (hs1.mono (by omega) (by omega))).tr (hshM_16.mono (by omega) (by omega)))
                        · have hcF : conf T (sc j) fn p = false := by cases z9 : conf T (sc j) fn p with | false => rfl | true => exact absurd z9 hcT
                          have hcB : (isGv (sc j (fn + 2 * p)) (rdT T (sc j) fn p).2.2.2.1 && wIn (sc j (fn + 2 * p + 1)) (nI 0) (nI 9)) = false := by rw [hgn]; exact hcF
                          refine w_cV (n := 172) (ro := some (.int (-1))) (R := fun mM' => m1 = mM') (st := []) (st1 := [.int (-1)]) (As := [.int (sc j (fn + 2 * p)), .int (nI 1), .int (sc j (fn + 2 * p + 1))]) (b := 49) O dX7_read_169 ul_X7_265 um_X7_alter (f_X7_alterB (s := s1) (T := (rdT T (sc j) fn p)) (lo := 0) (li := 0) (to := none) (tm := tm) hW ⟨h501, hpg1, _, _, _, _, _, _, _, _, _, _, _, _, _, _, _, _, h491⟩ hrk.1 hcB ⟨rfl, rfl⟩) rfl (by omega) h491 rfl rfl rfl rfl (by decide) (Nat.le_of_ble_eq_true rfl) rfl (fun mhM_17 hM_17 => ?_)
                          subst hM_17
                          refine w_if_ge (n := 175) (tgt := 188) O dX7_read_172 (by decide) rfl (fun c_18 => absurd c_18 (by decide)) (fun c_18 => ?_)
                          refine w_aload_n (n := 176) O dX7_read_175 rfl rfl rfl ?_
                          refine w_bipush (n := 178) O dX7_read_176 (v := (nI 90)) (by decide) rfl ?_
                          refine w_iconst (n := 179) O dX7_read_178 (v := (nI 0)) (by decide) rfl ?_
                          refine w_cV (n := 182) (ro := none) (R := fun mM' => mM' 50 = IA G 150 (pgI (cpS s1 90 0)) ∧ sm m1 mM' 50 50) (st := []) (st1 := []) (As := [.int (nI 90), .int (nI 0)]) (b := 49) O dX7_read_179 ul_X7_224 um_X7_copies (f_X7_copies (s := s1) (T := (rdT T (sc j) fn p)) (lo := 0) (li := 0) (to := none) (tm := tm) hW ⟨h501, hpg1, _, _, _, _, _, _, _, _, _, _, _, _, _, _, _, _, h491⟩ (by omega) (by omega) (by omega) (by omega) (by omega) (fun M' h1 h2 => ⟨rfl, h1, h2⟩)) rfl (by omega) h491 rfl rfl rfl rfl (by decide) (Nat.le_of_ble_eq_true rfl) rfl (fun mhM_19 hM_19 => ?_)
                          obtain ⟨hphM_19, hshM_19⟩ := hM_19
                          have hbk := pg_bk9 hag
                          refine w_bipush (n := 184) O dX7_read_182 (v := (-20)) (by decide) rfl ?_
                          refine w_iload (n := 186) O dX7_read_184 rfl rfl ?_
                          refine w_isub (n := 187) O dX7_read_186 rfl ?_
                          refine w_iret O dX7_read_187 ?_
                          have hrk9 : rdOk (nI j) (nI q) (nI m) = true := by unfold rdOk; rw [hr_j, hr_q, hr_m]; rfl
                          have eWh : rdWh sh (nI j) (nI q) f (nI m) = rdW sh j q f m := by unfold rdWh; rw [cl_j, cl_q, cl_m]
                          have eBd : rdBd T sh sc (nI j) (nI q) f (nI m) = rdB T (sc j) f.toNatClampNeg (rdW sh j q f m) := by unfold rdBd; rw [eWh, cl_j]
                          obtain ⟨hw1, hw2⟩ := rd_bad (T := T) (m := m) (sh := sh) (sc := sc) (j := j) (q := q) (p := p) (f := f) (fun i2 hi2 => by rcases Nat.lt_or_ge i2 p with z | z; exact hall i2 z; rw [show i2 = p by omega]; exact hpz) (by rw [hfn]; exact hcf) (by omega) (by rw [hfn]; exact hcF)
                          have h49z : mhM_19 49 = (.inr (7, [.ref (gb_ad G 50), .int (nI (T.2.2.2.1)), .ref (gb_ad G 51), .int (x3), .int (x4), .int (x5), .int (x6), .int (x7), .ref (gb_ad G 52), .int (nI (ln)), .int (nI (fa)), .int (x11), .int (x12), .int (x13), .int (x14), .int (x15), .int (x16), .ref (gb_ad G 53), .ref (gb_ad G 54), .int (nI 0), .int (nI 0), .int (oI none), .int (nI (tm)), .ref (gb_ad G 55), .int (nI (sn)), .ref (gb_ad G 56), .int (x26), .ref (gb_ad G 57), .ref (gb_ad G 58), .ref (gb_ad G 59), .ref (gb_ad G 60), .int (nI (tn))])) := by have z9 := ((hshM_19 (49) (by omega)).trans h491); rw [hgn] at z9; exact z9
                          have e0 : a_read T sh sc (nI j) (nI q) f (nI m) = (((-20) - (nI (p)))) := by unfold a_read; rw [if_pos hrk9, eBd, eWh, hw2, if_pos hw1]
                          have e1 : s_readT T sh sc (nI j) (nI q) f (nI m) = T := by unfold s_readT; rw [eBd, eWh, hw2]; exact if_neg (fun z9 => z9.2 hw1)
                          have e2 : s_readN T sh sc tn (nI j) (nI q) f (nI m) = tn := by unfold s_readN; rw [eBd, eWh, hw2]; exact if_neg (fun z9 => z9.2 hw1)
                          rw [e0, e1, e2] at hQ
                          try dsimp only at hQ
                          exact hQ (mhM_19) ⟨_, _, _, _, _, _, _, _, _, _, _, _, _, _, _, _, _, _, _, _, h49z, hphM_19, ((hshM_19 (51) (by omega)).trans ((hs1 (51) (by omega)).trans h51)), ((hshM_19 (52) (by omega)).trans ((hs1 (52) (by omega)).trans h52)), ((hshM_19 (53) (by omega)).trans ((hs1 (53) (by omega)).trans h53)), ((hshM_19 (54) (by omega)).trans ((hs1 (54) (by omega)).trans h54)), ((hshM_19 (55) (by omega)).trans ((hs1 (55) (by omega)).trans h55)), ((hshM_19 (56) (by omega)).trans ((hs1 (56) (by omega)).trans h56)), ((hshM_19 (57) (by omega)).trans ((hs1 (57) (by omega)).trans h57)), ((hshM_19 (58) (by omega)).trans ((hs1 (58) (by omega)).trans h58)), ((hshM_19 (59) (by omega)).trans ((hs1 (59) (by omega)).trans h59)), ((hshM_19 (60) (by omega)).trans ((hs1 (60) (by omega)).trans h60)), htm, (pg0_cong hpg (fun k2 hk2 => hbk k2 (by omega))), (imK3 hIm (fun k2 _ h2 => hbk k2 h2)), hSe, hLa, hLe, hCe⟩ ((sm.rf.tr (hs1.mono (by omega) (by omega))).tr (hshM_19.mono (by omega) (by omega)))
                    · skip
                      refine w_iconst (n := 121) O dX7_read_120 (v := (nI 2)) (by decide) rfl ?_
                      refine w_goto (tgt := 125) O dX7_read_121 (by decide) ?_
                      refine w_istore (n := 127) (lv' := [(5, .int (nI 2)), (0, .ref (gb_ad G 49)), (1, .int (nI (j))), (2, .int (nI (q))), (3, .int (f)), (4, .int (nI (m))), (6, .int (nI (p))), (7, .int (nI (i)))]) O dX7_read_125 (by decide) rfl rfl ?_
                      refine w_iload (n := 129) O dX7_read_127 rfl rfl ?_
                      refine w_if_neN (n := 132) (tgt := 191) O dX7_read_129 (by omega) (by decide) rfl (fun c_20 => ?_) (fun c_20 => by omega)
                      refine w_iincN (n := 194) (lv' := [(7, .int (nI (i + 1))), (5, .int (nI 2)), (0, .ref (gb_ad G 49)), (1, .int (nI (j))), (2, .int (nI (q))), (3, .int (f)), (4, .int (nI (m))), (6, .int (nI (p)))]) O dX7_read_191 rfl (by decide) rfl rfl ?_
                      refine w_goto (tgt := 55) O dX7_read_194 (by decide) ?_
                      refine w_lv (lv2 := [(0, .ref (gb_ad G 49)), (1, .int (nI (j))), (2, .int (nI (q))), (3, .int (f)), (4, .int (nI (m))), (5, .int (nI 2)), (6, .int (nI (p))), (7, .int (nI (i + 1)))]) [2, 3, 4, 5, 6, 1, 7, 0] rfl ?_
                      exact ih_RD _ (by omega) (i + 1) p 2 s1 _ rfl (by omega) (by omega) hall hcf (fun z => absurd z (by decide)) (fun z => absurd z (by decide)) (fun z => absurd z (by decide)) (fun _ => ⟨by omega, (by rw [hq0]; rcases Nat.mod_two_eq_zero_or_one i with z | z; (exact pf_c1 heq hqb.2 (by rw [show 2 * p = i by omega]; exact c_13)); (obtain ⟨q1, e1, e2, e3⟩ := hodd z; rw [hq0] at e1; cases e1; exact (pf_c2 (i := i) (by omega) heq hqb.2 e3 c_13).trans (if_neg (by decide))))⟩) h501 hpg1 hag hs1
                  · skip
                    have hne := c_11
                    refine w_iconst (n := 95) O dX7_read_94 (v := (nI 3)) (by decide) rfl ?_
                    refine w_goto (tgt := 125) O dX7_read_95 (by decide) ?_
                    refine w_istore (n := 127) (lv' := [(5, .int (nI 3)), (0, .ref (gb_ad G 49)), (1, .int (nI (j))), (2, .int (nI (q))), (3, .int (f)), (4, .int (nI (m))), (6, .int (nI (p))), (7, .int (nI (i)))]) O dX7_read_125 (by decide) rfl rfl ?_
                    refine w_iload (n := 129) O dX7_read_127 rfl rfl ?_
                    refine w_if_neN (n := 132) (tgt := 191) O dX7_read_129 (by omega) (by decide) rfl (fun c_21 => ?_) (fun c_21 => by omega)
                    refine w_iincN (n := 194) (lv' := [(7, .int (nI (i + 1))), (5, .int (nI 3)), (0, .ref (gb_ad G 49)), (1, .int (nI (j))), (2, .int (nI (q))), (3, .int (f)), (4, .int (nI (m))), (6, .int (nI (p)))]) O dX7_read_191 rfl (by decide) rfl rfl ?_
                    refine w_goto (tgt := 55) O dX7_read_194 (by decide) ?_
                    refine w_lv (lv2 := [(0, .ref (gb_ad G 49)), (1, .int (nI (j))), (2, .int (nI (q))), (3, .int (f)), (4, .int (nI (m))), (5, .int (nI 3)), (6, .int (nI (p))), (7, .int (nI (i + 1)))]) [2, 3, 4, 5, 6, 1, 7, 0] rfl ?_
                    exact ih_RD _ (by omega) (i + 1) p 3 s1 _ rfl (by omega) (by omega) hall hcf (fun z => absurd z (by decide)) (fun z => absurd z (by decide)) (fun z => absurd z (by decide)) (fun _ => ⟨by omega, (by rw [hq0]; exact pf_lane hne hqb.2)⟩) h501 hpg1 hag hs1
                · skip
                  have hnone : sh j = none := laM_n (hok.2.2.2.2.2.2.2.2.1 j (by omega)) c_10
                  refine w_iconst (n := 81) O dX7_read_80 (v := (nI 1)) (by decide) rfl ?_
                  refine w_goto (tgt := 125) O dX7_read_81 (by decide) ?_
                  refine w_istore (n := 127) (lv' := [(5, .int (nI 1)), (0, .ref (gb_ad G 49)), (1, .int (nI (j))), (2, .int (nI (q))), (3, .int (f)), (4, .int (nI (m))), (6, .int (nI (p))), (7, .int (nI (i)))]) O dX7_read_125 (by decide) rfl rfl ?_
                  refine w_iload (n := 129) O dX7_read_127 rfl rfl ?_
                  refine w_if_neN (n := 132) (tgt := 191) O dX7_read_129 (by omega) (by decide) rfl (fun c_22 => ?_) (fun c_22 => by omega)
                  refine w_iincN (n := 194) (lv' := [(7, .int (nI (i + 1))), (5, .int (nI 1)), (0, .ref (gb_ad G 49)), (1, .int (nI (j))), (2, .int (nI (q))), (3, .int (f)), (4, .int (nI (m))), (6, .int (nI (p)))]) O dX7_read_191 rfl (by decide) rfl rfl ?_
                  refine w_goto (tgt := 55) O dX7_read_194 (by decide) ?_
                  refine w_lv (lv2 := [(0, .ref (gb_ad G 49)), (1, .int (nI (j))), (2, .int (nI (q))), (3, .int (f)), (4, .int (nI (m))), (5, .int (nI 1)), (6, .int (nI (p))), (7, .int (nI (i + 1)))]) [2, 3, 4, 5, 6, 1, 7, 0] rfl ?_
                  exact ih_RD _ (by omega) (i + 1) p 1 s1 _ rfl (by omega) (by omega) hall hcf (fun z => absurd z (by decide)) (fun z => absurd z (by decide)) (fun z => absurd z (by decide)) (fun _ => ⟨by omega, (by rw [hnone]; exact pf_none)⟩) h501 hpg1 hag hs1
        refine w_lv (lv2 := [(0, .ref (gb_ad G 49)), (1, .int (nI (j))), (2, .int (nI (q))), (3, .int (f)), (4, .int (nI (m))), (5, .int (nI 0)), (6, .int (nI 0)), (7, .int (nI 0))]) [3, 4, 5, 6, 7, 2, 1, 0] rfl ?_
        exact RD _ 0 0 0 _ _ rfl (Nat.zero_le _) (Nat.zero_le _) (fun i2 h => absurd h (Nat.not_lt_zero i2)) (fun i2 h => absurd h (Nat.not_lt_zero i2)) (fun _ => rfl) (fun _ z => absurd z (by decide)) (fun _ z => absurd z (by decide)) (fun z => absurd rfl z) hphM_7 (pg_cp hpg (by omega)) (fun _ _ _ => rfl) (sm.rf.tr (hshM_7.mono (by omega) (by omega)))
      · skip
        refine w_iconst (n := 38) O dX7_read_37 (v := (-1)) (by decide) rfl ?_
        refine w_iret O dX7_read_38 ?_
        have e0 : a_read T sh sc (nI j) (nI q) f n = -1 := by unfold a_read; rw [if_neg (by rw [show rdOk (nI j) (nI q) n = false from by simp [rdOk, c_6]]; decide)]
        have e1 : s_readT T sh sc (nI j) (nI q) f n = T := by unfold s_readT; rw [if_neg (fun z9 => by rw [show rdOk (nI j) (nI q) n = false from by simp [rdOk, c_6]] at z9; exact absurd z9.1 (by decide))]
        have e2 : s_readN T sh sc tn (nI j) (nI q) f n = tn := by unfold s_readN; rw [if_neg (fun z9 => by rw [show rdOk (nI j) (nI q) n = false from by simp [rdOk, c_6]] at z9; exact absurd z9.1 (by decide))]
        rw [e0, e1, e2] at hQ
        try dsimp only at hQ
        exact hQ (mM) ⟨_, _, _, _, _, _, _, _, _, _, _, _, _, _, _, _, _, _, _, _, h49, h50, h51, h52, h53, h54, h55, h56, h57, h58, h59, h60, htm, hpg, hIm, hSe, hLa, hLe, hCe⟩ sm.rf
