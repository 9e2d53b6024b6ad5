theorem shI24b (x : BitVec 32) : (x <<< 24).sshiftRight 24 = (x.signExtend 8).signExtend 32 := by
  apply BitVec.eq_of_getLsbD_eq
  intro i hi
  rw [BitVec.getLsbD_sshiftRight, BitVec.getLsbD_signExtend, BitVec.getLsbD_signExtend, BitVec.msb_eq_getLsbD_last, BitVec.msb_eq_getLsbD_last, BitVec.msb_eq_getLsbD_last, BitVec.getLsbD_signExtend]
  by_cases h : i < 8
  · rw [if_pos (show 24 + i < 32 by omega), if_pos h, if_pos hi]
    rw [BitVec.getLsbD_shiftLeft, decide_eq_true hi, decide_eq_true h, decide_eq_true (show 24 + i < 32 by omega), decide_eq_false (show ¬ 24 + i < 24 by omega), show 24 + i - 24 = i by omega, decide_eq_false (show ¬ 32 ≤ i by omega)]
    simp
  · rw [if_neg (show ¬ 24 + i < 32 by omega), if_neg h]
    rw [BitVec.getLsbD_shiftLeft, decide_eq_true hi, decide_eq_false (show ¬ 32 ≤ i by omega)]
    simp
theorem shI24 (x : Int32) : (x <<< (nI 24 &&& 31)) >>> (nI 24 &&& 31) = x.toInt8.toInt32 := by
  apply Int32.toBitVec_inj.mp
  rw [Int8.toBitVec_toInt32, Int32.toBitVec_toInt8, ← shI24b]
  show (x.toBitVec <<< ((nI 24 &&& 31).toBitVec.smod 32).toNat).sshiftRight ((nI 24 &&& 31).toBitVec.smod 32).toNat = _
  rw [nI_sl 24 (by decide)]
theorem shI16b (x : BitVec 32) : (x <<< 16).sshiftRight 16 = (x.signExtend 16).signExtend 32 := by
  apply BitVec.eq_of_getLsbD_eq
  intro i hi
  rw [BitVec.getLsbD_sshiftRight, BitVec.getLsbD_signExtend, BitVec.getLsbD_signExtend, BitVec.msb_eq_getLsbD_last, BitVec.msb_eq_getLsbD_last, BitVec.msb_eq_getLsbD_last, BitVec.getLsbD_signExtend]
  by_cases h : i < 16
  · rw [if_pos (show 16 + i < 32 by omega), if_pos h, if_pos hi]
    rw [BitVec.getLsbD_shiftLeft, decide_eq_true hi, decide_eq_true h, decide_eq_true (show 16 + i < 32 by omega), decide_eq_false (show ¬ 16 + i < 16 by omega), show 16 + i - 16 = i by omega, decide_eq_false (show ¬ 32 ≤ i by omega)]
    simp
  · rw [if_neg (show ¬ 16 + i < 32 by omega), if_neg h]
    rw [BitVec.getLsbD_shiftLeft, decide_eq_true hi, decide_eq_false (show ¬ 32 ≤ i by omega)]
    simp
theorem shI16 (x : Int32) : (x <<< (nI 16 &&& 31)) >>> (nI 16 &&& 31) = x.toInt16.toInt32 := by
  apply Int32.toBitVec_inj.mp
  rw [Int16.toBitVec_toInt32, Int32.toBitVec_toInt16, ← shI16b]
  show (x.toBitVec <<< ((nI 16 &&& 31).toBitVec.smod 32).toNat).sshiftRight ((nI 16 &&& 31).toBitVec.smod 32).toNat = _
  rw [nI_sl 16 (by decide)]
theorem flt_ok {x : Int32} {q : Nat} (hq : q ≤ 40) (h : isGv x q = true) : fltAt (nI q) x = 0 := by
  obtain ⟨j, hj, rfl⟩ := isGv_t (by omega) h
  unfold fltAt
  rw [if_neg (fun z => nI_neg1 (a := q) (by omega) z.symm), if_neg (fun z => z.elim (fun z => absurd z (nI_pos (by omega))) (fun z => z ((nI_ltI (by omega) (by omega)).mpr hj)))]
theorem flt_no {x : Int32} {q : Nat} (hq : q ≤ 40) (h : isGv x q = false) : fltAt (nI q) x = 2 := by
  unfold fltAt
  rw [if_neg (fun z => nI_neg1 (a := q) (by omega) z.symm), if_pos]
  refine Classical.byContradiction fun z => ?_
  have z1 : ¬ x < 0 := fun w => z (Or.inl w)
  have z2 : x < nI q := Classical.byContradiction fun w => z (Or.inr w)
  obtain ⟨j, hj, rfl⟩ := nI_of z1
  have hjq := (nI_ltI hj (by omega)).mp z2
  rw [isGv_n (by omega) hjq] at h
  exact absurd h (by decide)
theorem pf_none {lane : Nat} {f : Int32} {p : Nat} : pairF (szI none) (laI none) lane f p = 1 := by
  unfold pairF pfl fltAt
  simp [szI]
theorem pf_lane {q0 : Nat × Nat} {lane : Nat} {f : Int32} {p : Nat} (h : ¬ q0.1 = lane) (hq : q0.2 ≤ 40) : pairF (szI (some q0)) (laI (some q0)) lane f p = 3 := by
  unfold pairF pfl
  exact if_pos ⟨fun z => nI_neg1 (a := q0.2) (by omega) z.symm, h⟩
theorem pf_c1 {q0 : Nat × Nat} {lane : Nat} {f : Int32} {p : Nat} (h : q0.1 = lane) (hq : q0.2 ≤ 40) (hc : isGv (f + nI (2 * p)) q0.2 = false) : pairF (szI (some q0)) (laI (some q0)) lane f p = 2 := by
  unfold pairF pfl
  have e : fltAt (szI (some q0)) (f + nI (2 * p)) = 2 := flt_no hq hc
  rw [if_neg (fun z => z.2 h), e, if_neg (by decide)]
theorem pf_c2 {q0 : Nat × Nat} {lane : Nat} {f : Int32} {p i : Nat} (hi : i = 2 * p + 1) (h : q0.1 = lane) (hq : q0.2 ≤ 40) (h0 : isGv (f + nI (2 * p)) q0.2 = true) {b : Bool} (hc : isGv (f + nI i) q0.2 = b) : pairF (szI (some q0)) (laI (some q0)) lane f p = if b = true then 0 else 2 := by
  unfold pairF pfl
  have e : fltAt (szI (some q0)) (f + nI (2 * p)) = 0 := flt_ok hq h0
  rw [if_neg (fun z => z.2 h), e, if_pos rfl, Int32.add_assoc, nI_add, ← hi]
  cases b with
  | true => exact flt_ok hq hc
  | false => exact flt_no hq hc
theorem add64 {f : Int32} {i fn : Nat} (h : 0 < i → f = nI fn ∧ fn + i ≤ 40) : f.toInt64 + (nI i).toInt64 = (f + nI i).toInt64 := by
  by_cases e : i = 0
  · subst e
    rw [nI_0, Int32.add_zero, show (0 : Int32).toInt64 = 0 by decide, Int64.add_zero]
  · obtain ⟨h1, h2⟩ := h (by omega)
    rw [h1, nI_l (by omega), nI_l (by omega), nI_add, nI_l (by omega)]
    exact lN_add _ _
theorem f_small {f : Int32} {i fn q : Nat} (hfn : f.toNatClampNeg = fn) (hq : q ≤ 40) (h : 0 < i → f = nI fn ∧ fn + i ≤ 40) (hc : isGv (f + nI i) q = true) : f = nI fn ∧ fn + i < q := by
  obtain ⟨a, ha, ea⟩ := isGv_t (by omega) hc
  by_cases e : i = 0
  · subst e
    rw [nI_0, Int32.add_zero] at ea
    rw [ea, nI_clamp (by omega)] at hfn
    exact ⟨by rw [ea, hfn], by omega⟩
  · obtain ⟨h1, h2⟩ := h (by omega)
    rw [h1, nI_add] at ea
    have := (nI_eq (by omega) (by omega)).mp ea
    exact ⟨h1, by omega⟩
theorem fstF_ge2 (P : Nat → Nat) : ∀ k a : Nat, a ≤ fstF P k a
  | 0, a => Nat.le_refl a
  | k + 1, a => by
    simp only [fstF]
    split
    · have := fstF_ge2 P k (a + 1); omega
    · exact Nat.le_refl a
theorem fst_gt {P : Nat → Nat} : ∀ (k a m : Nat), a ≤ m → m ≤ a + k → (∀ i, a ≤ i → i < m → P i = 0) → m ≤ fstF P k a
  | 0, a, m, h1, h2, _ => by simp only [fstF]; omega
  | k + 1, a, m, h1, h2, h => by
    simp only [fstF]
    by_cases e : a = m
    · subst e
      split
      · have := fstF_ge2 P k (a + 1); omega
      · exact Nat.le_refl _
    · rw [if_pos (h a (Nat.le_refl _) (by omega))]
      exact fst_gt k (a + 1) m (by omega) (by omega) (fun i q1 q2 => h i (by omega) q2)
set_option maxRecDepth 100000 in
set_option maxHeartbeats 4000000 in
theorem f_X7_sheet {G : gb_G} (hW : gW G) {Q : Option Value → gb_M → Prop} {mM : gb_M} {T : Tw} {im : Nat → Tw} {kp : Nat → Bool} {bs : Nat → Nat} {ln fa : Nat} {st sf : Nat → Nat} {sn : Nat} {sh : Sh} {sc : Nat → Nat → Int32} {tn : Nat} (hok : okS T im kp bs ln fa st sf sn sh tn) (hM : isMW G mM T im kp bs ln fa st sf sn sh sc tn) {k lane n : Int32}  (hQ : ∀ M', isMW G M' T im kp bs ln fa st sf sn ((s_sheet sh sc k lane n).1) ((s_sheet sh sc k lane n).2) tn → sm mM M' 49 60 → Q (some (.int (a_sheet k lane n))) M') : Fn G 1 yX7_sheet cX7_sheet 5 (some .int) [.ref (gb_ad G 49), .int (k), .int (lane), .int (n)] mM Q := by
  obtain ⟨s, se, le, rp, te, la, ce, tm, x3, x4, x5, x6, x7, x11, x12, x13, x14, x15, x16, x26, h49, h50, h51, h52, h53, h54, h55, h56, h57, h58, h59, h60, htm, hpg, hIm, hSe, hLa, hLe, hCe⟩ := hM
  have ok := hok.1
  have hn4 := ok.1
  have hst9 := hok.2.1
  have hln := hok.2.2.2.1
  have hsn6 := hok.2.2.2.2.2.2.1
  have hN := hW.2.2.1
  refine Fn.of hW.1 [(0, .ref (gb_ad G 49)), (1, .int (k)), (2, .int (lane)), (3, .int (n))] (by decide) (Nat.le_of_ble_eq_true rfl) rfl ?_
  intro X O
  refine w_iload_n (n := 1) O dX7_sheet_0 rfl rfl rfl ?_
  refine w_i2l (n := 2) O dX7_sheet_1 rfl ?_
  refine w_lconst (n := 3) O dX7_sheet_2 (v := lN 0) (by decide) rfl ?_
  refine w_ldc2 (n := 6) O dX7_sheet_3 uc_X7_202 rfl ?_
  refine w_topl (lN 3) (by decide) ?_
  refine w_cS (n := 9) (ro := some (.int (bI (wIn (k) (nI 0) (nI 3))))) (R := fun mM' => mM = mM') (st := []) (st1 := [.int (bI (wIn (k) (nI 0) (nI 3)))]) (As := [.long ((k).toInt64), .long (lN 0), .long (lN 3)]) O dX7_sheet_6 ul_X7_50 um_X7_in (f_X7_in (x := (k)) (y := (nI 0)) (z := (nI 3)) hW rfl (nI_l (by decide)).symm (nI_l (by decide)).symm ⟨rfl, rfl⟩) rfl rfl rfl (by decide) (Nat.le_of_ble_eq_true rfl) rfl (fun mhM_1 hM_1 => ?_)
  subst hM_1
  refine w_if_eqB (n := 12) (tgt := 30) O dX7_sheet_9 (by decide) rfl (fun c_2 => ?_) (fun c_2 => ?_)
  · skip
    refine w_iconst (n := 31) O dX7_sheet_30 (v := (-1)) (by decide) rfl ?_
    refine w_iret O dX7_sheet_31 ?_
    have e0 : a_sheet k lane n = -1 := by unfold a_sheet; rw [if_neg (by rw [show shOk k lane n = false from by simp [shOk, c_2]]; decide)]
    have e1 : s_sheet sh sc k lane n = (sh, sc) := by unfold s_sheet; rw [if_neg (fun z => by rw [show shOk k lane n = false from by simp [shOk, c_2]] at z; exact absurd z.1 (by decide))]
    rw [e0, e1] at hQ
    try dsimp only at hQ
    exact hQ (mM) ⟨_, _, _, _, _, _, _, _, _, _, _, _, _, _, _, _, _, _, _, _, h49, h50, h51, h52, h53, h54, h55, h56, h57, h58, h59, h60, htm, hpg, hIm, hSe, hLa, hLe, hCe⟩ sm.rf
  · skip
    have hr_j := c_2
    obtain ⟨j, ja, jb, rfl⟩ := wIn_t (by omega) c_2 (by omega)
    have cl_j : (nI j).toNatClampNeg = j := nI_clamp (by omega)
    refine w_iload_n (n := 13) O dX7_sheet_12 rfl rfl rfl ?_
    refine w_i2l (n := 14) O dX7_sheet_13 rfl ?_
    refine w_lconst (n := 15) O dX7_sheet_14 (v := lN 0) (by decide) rfl ?_
    refine w_ldc2 (n := 18) O dX7_sheet_15 uc_X7_142 rfl ?_
    refine w_topl (lN 2) (by decide) ?_
    refine w_cS (n := 21) (ro := some (.int (bI (wIn (lane) (nI 0) (nI 2))))) (R := fun mM' => mM = mM') (st := []) (st1 := [.int (bI (wIn (lane) (nI 0) (nI 2)))]) (As := [.long ((lane).toInt64), .long (lN 0), .long (lN 2)]) O dX7_sheet_18 ul_X7_50 um_X7_in (f_X7_in (x := (lane)) (y := (nI 0)) (z := (nI 2)) hW rfl (nI_l (by decide)).symm (nI_l (by decide)).symm ⟨rfl, rfl⟩) rfl rfl rfl (by decide) (Nat.le_of_ble_eq_true rfl) rfl (fun mhM_3 hM_3 => ?_)
    subst hM_3
    refine w_if_eqB (n := 24) (tgt := 30) O dX7_sheet_21 (by decide) rfl (fun c_4 => ?_) (fun c_4 => ?_)
    · skip
      refine w_iconst (n := 31) O dX7_sheet_30 (v := (-1)) (by decide) rfl ?_
      refine w_iret O dX7_sheet_31 ?_
      have e0 : a_sheet (nI j) lane n = -1 := by unfold a_sheet; rw [if_neg (by rw [show shOk (nI j) lane n = false from by simp [shOk, c_4]]; decide)]
      have e1 : s_sheet sh sc (nI j) lane n = (sh, sc) := by unfold s_sheet; rw [if_neg (fun z => by rw [show shOk (nI j) lane n = false from by simp [shOk, c_4]] at z; exact absurd z.1 (by decide))]
      rw [e0, e1] at hQ
      try dsimp only at hQ
      exact hQ (mM) ⟨_, _, _, _, _, _, _, _, _, _, _, _, _, _, _, _, _, _, _, _, h49, h50, h51, h52, h53, h54, h55, h56, h57, h58, h59, h60, htm, hpg, hIm, hSe, hLa, hLe, hCe⟩ sm.rf
    · skip
      have hr_q := c_4
      obtain ⟨q, qa, qb, rfl⟩ := wIn_t (by omega) c_4 (by omega)
      have cl_q : (nI q).toNatClampNeg = q := nI_clamp (by omega)
      refine w_iload_n (n := 25) O dX7_sheet_24 rfl rfl rfl ?_
      refine w_bipush (n := 27) O dX7_sheet_25 (v := (nI 40)) (by decide) rfl ?_
      refine w_icmp_le (n := 30) (tgt := 32) O dX7_sheet_27 (by decide) rfl (fun c_5 => ?_) (fun c_5 => ?_)
      · skip
        refine w_iload_n (n := 33) O dX7_sheet_32 rfl rfl rfl ?_
        refine w_if_ge (n := 36) (tgt := 39) O dX7_sheet_33 (by decide) rfl (fun c_6 => ?_) (fun c_6 => ?_)
        · skip
          have hm40 := c_5
          have hm0 : ¬ n < 0 := Int32.not_lt.mpr c_6
          obtain ⟨m, hm, rfl⟩ := le_nI (by decide) hm0 hm40
          refine w_aload_n (n := 40) O dX7_sheet_39 rfl rfl rfl ?_
          refine w_getf (n := 43) O 28 dX7_sheet_40 (by omega) h49 rfl (by decide) uX7 uf_X7_39 rfl rfl ?_
          refine w_iload_n (n := 44) O dX7_sheet_43 rfl rfl rfl ?_
          refine w_iload_n (n := 45) O dX7_sheet_44 rfl rfl rfl ?_
          refine w_iastA (n := 46) O dX7_sheet_45 hW.2.1 (by omega) h58 (by omega) (by decide) rfl ?_
          refine w_aload_n (n := 47) O dX7_sheet_46 rfl rfl rfl ?_
          refine w_getf (n := 50) O 29 dX7_sheet_47 (by omega) ((va_up_ne _ _ (by decide)).trans h49) rfl (by decide) uX7 uf_X7_42 rfl rfl ?_
          refine w_iload_n (n := 51) O dX7_sheet_50 rfl rfl rfl ?_
          refine w_iload_n (n := 52) O dX7_sheet_51 rfl rfl rfl ?_
          refine w_iastN (n := 53) O dX7_sheet_52 hW.2.1 (by omega) ((va_up_ne _ _ (by decide)).trans h59) (by omega) (by decide) rfl ?_
          refine w_iconst (n := 54) O dX7_sheet_53 (v := (nI 0)) (by decide) rfl ?_
          refine w_istore (n := 56) (lv' := [(4, .int (nI 0)), (0, .ref (gb_ad G 49)), (1, .int (nI (j))), (2, .int (nI (q))), (3, .int (nI (m)))]) O dX7_sheet_54 (by decide) rfl rfl ?_
          have LS : ∀ (k : Nat) (i : Nat) (ce1 : Nat → Int32) (m1 : gb_M), 40 - i = k → i ≤ 40 → (∀ p2, ce1 p2 = if 40 * j ≤ p2 ∧ p2 < 40 * j + i then nI 0 else ce p2) → m1 58 = IA G 4 (upd la j (nI q)) → m1 59 = IN G 4 (upN le j m) → m1 60 = IA G 160 ce1 → sm mM m1 58 60 → Wm G X 5 Q 56 [(0, .ref (gb_ad G 49)), (1, .int (nI (j))), (2, .int (nI (q))), (3, .int (nI (m))), (4, .int (nI (i)))] [] m1 := by
            intro k
            induction k using Nat.strongRecOn with
            | ind k ih_LS =>
              intro i ce1 m1 hk hi hce h581 h591 h601 hs1
              refine w_iload (n := 58) O dX7_sheet_56 rfl rfl ?_
              refine w_bipush (n := 60) O dX7_sheet_58 (v := (nI 40)) (by decide) rfl ?_
              refine w_icmp_geN (n := 63) (tgt := 82) O dX7_sheet_60 (by omega) (by omega) (by decide) rfl (fun c_7 => ?_) (fun c_7 => ?_)
              · skip
                refine w_iconst (n := 83) O dX7_sheet_82 (v := (nI 1)) (by decide) rfl ?_
                refine w_iret O dX7_sheet_83 ?_
                have e0 : a_sheet (nI j) (nI q) (nI m) = (nI (1)) := by unfold a_sheet; rw [if_pos (by unfold shOk; rw [hr_j, hr_q, decide_eq_true hm40]; rfl), if_neg hm0]; decide
                have e1 : s_sheet sh sc (nI j) (nI q) (nI m) = (upS sh j (some (q, m)), upC sc j (fun _ => nI 0)) := by unfold s_sheet; rw [if_pos ⟨by unfold shOk; rw [hr_j, hr_q, decide_eq_true hm40]; rfl, hm0⟩, cl_j, cl_q, nI_clamp (show m < 2 ^ 31 by omega)]
                rw [e0, e1] at hQ
                try dsimp only at hQ
                exact hQ (m1) ⟨_, _, _, _, _, _, _, _, _, _, _, _, _, _, _, _, _, _, _, _, ((hs1 (49) (by omega)).trans h49), ((hs1 (50) (by omega)).trans h50), ((hs1 (51) (by omega)).trans h51), ((hs1 (52) (by omega)).trans h52), ((hs1 (53) (by omega)).trans h53), ((hs1 (54) (by omega)).trans h54), ((hs1 (55) (by omega)).trans h55), ((hs1 (56) (by omega)).trans h56), ((hs1 (57) (by omega)).trans h57), h581, h591, h601, htm, hpg, hIm, hSe, (fun k2 hk2 => by unfold upd upS; by_cases e : k2 = j; (rw [if_pos e, if_pos e]; rfl); (rw [if_neg e, if_neg e]; exact hLa k2 hk2)), (fun k2 hk2 q2 hq2 => by unfold upS at hq2; unfold upN; by_cases e : k2 = j; (rw [if_pos e] at hq2; rw [if_pos e]; cases hq2; rfl); (rw [if_neg e] at hq2; rw [if_neg e]; exact hLe k2 hk2 q2 hq2)), (fun k2 hk2 i2 hi2 => by rw [hce]; unfold upC; by_cases e : k2 = j; (subst e; rw [if_pos (by omega), if_pos rfl]); (rw [if_neg (by omega), if_neg e]; exact hCe k2 hk2 i2 hi2))⟩ (sm.rf.tr (hs1.mono (by omega) (by omega)))
              · skip
                refine w_aload_n (n := 64) O dX7_sheet_63 rfl rfl rfl ?_
                refine w_getf (n := 67) O 30 dX7_sheet_64 (by omega) ((hs1 (49) (by omega)).trans h49) rfl (by decide) uX7 uf_X7_45 rfl rfl ?_
                refine w_bipush (n := 69) O dX7_sheet_67 (v := (nI 40)) (by decide) rfl ?_
                refine w_iload_n (n := 70) O dX7_sheet_69 rfl rfl rfl ?_
                refine w_imulN (n := 71) O dX7_sheet_70 rfl ?_
                refine w_iload (n := 73) O dX7_sheet_71 rfl rfl ?_
                refine w_iaddN (n := 74) O dX7_sheet_73 rfl ?_
                refine w_iconst (n := 75) O dX7_sheet_74 (v := (nI 0)) (by decide) rfl ?_
                refine w_iastA (n := 76) O dX7_sheet_75 hW.2.1 (by omega) h601 (by omega) (by decide) rfl ?_
                refine w_iincN (n := 79) (lv' := [(4, .int (nI (i + 1))), (0, .ref (gb_ad G 49)), (1, .int (nI (j))), (2, .int (nI (q))), (3, .int (nI (m)))]) O dX7_sheet_76 rfl (by decide) rfl rfl ?_
                refine w_goto (tgt := 56) O dX7_sheet_79 (by decide) ?_
                refine w_lv (lv2 := [(0, .ref (gb_ad G 49)), (1, .int (nI (j))), (2, .int (nI (q))), (3, .int (nI (m))), (4, .int (nI (i + 1)))]) [1, 2, 3, 4, 0] rfl ?_
                exact ih_LS _ (by omega) (i + 1) _ _ rfl (by omega) (fun p2 => by simp only [upd]; by_cases e : p2 = 40 * j + i; (rw [if_pos e, if_pos (by omega)]); (rw [if_neg e, hce]; by_cases e2 : 40 * j ≤ p2 ∧ p2 < 40 * j + i; (rw [if_pos e2, if_pos (by omega)]); (rw [if_neg e2, if_neg (by omega)]))) ((va_up_ne _ _ (by decide)).trans h581) ((va_up_ne _ _ (by decide)).trans h591) (va_up_self _ _ _) ((sm.rf.tr (hs1.mono (by omega) (by omega))).up (by omega) (by omega))
          refine w_lv (lv2 := [(0, .ref (gb_ad G 49)), (1, .int (nI (j))), (2, .int (nI (q))), (3, .int (nI (m))), (4, .int (nI 0))]) [1, 2, 3, 4, 0] rfl ?_
          exact LS _ 0 ce _ rfl (Nat.zero_le _) (fun p2 => (if_neg (by omega)).symm) ((va_up_ne _ _ (by decide)).trans (va_up_self _ _ _)) (va_up_self _ _ _) ((va_up_ne _ _ (by decide)).trans ((va_up_ne _ _ (by decide)).trans h60)) ((sm.rf.up (by omega) (by omega)).up (by omega) (by omega))
        · skip
          refine w_bipush (n := 38) O dX7_sheet_36 (v := (-14)) (by decide) rfl ?_
          refine w_iret O dX7_sheet_38 ?_
          have e0 : a_sheet (nI j) (nI q) n = -14 := by unfold a_sheet; rw [if_pos (by unfold shOk; rw [hr_j, hr_q, decide_eq_true (show n ≤ nI 40 from c_5)]; rfl), if_pos (Int32.not_le.mp c_6)]
          have e1 : s_sheet sh sc (nI j) (nI q) n = (sh, sc) := by unfold s_sheet; rw [if_neg (fun z => z.2 (Int32.not_le.mp c_6))]
          rw [e0, e1] at hQ
          try dsimp only at hQ
          exact hQ (mM) ⟨_, _, _, _, _, _, _, _, _, _, _, _, _, _, _, _, _, _, _, _, h49, h50, h51, h52, h53, h54, h55, h56, h57, h58, h59, h60, htm, hpg, hIm, hSe, hLa, hLe, hCe⟩ sm.rf
      · skip
        refine w_iconst (n := 31) O dX7_sheet_30 (v := (-1)) (by decide) rfl ?_
        refine w_iret O dX7_sheet_31 ?_
        have e0 : a_sheet (nI j) (nI q) n = -1 := by unfold a_sheet; rw [if_neg (by rw [show shOk (nI j) (nI q) n = false from by unfold shOk; rw [decide_eq_false (show ¬ n ≤ nI 40 from c_5), Bool.and_false]]; decide)]
        have e1 : s_sheet sh sc (nI j) (nI q) n = (sh, sc) := by unfold s_sheet; rw [if_neg (fun z => by rw [show shOk (nI j) (nI q) n = false from by unfold shOk; rw [decide_eq_false (show ¬ n ≤ nI 40 from c_5), Bool.and_false]] at z; exact absurd z.1 (by decide))]
        rw [e0, e1] at hQ
        try dsimp only at hQ
        exact hQ (mM) ⟨_, _, _, _, _, _, _, _, _, _, _, _, _, _, _, _, _, _, _, _, h49, h50, h51, h52, h53, h54, h55, h56, h57, h58, h59, h60, htm, hpg, hIm, hSe, hLa, hLe, hCe⟩ sm.rf
set_option maxRecDepth 100000 in
set_option maxHeartbeats 4000000 in
theorem f_X7_lay {G : gb_G} (hW : gW G) {Q : Option Value → gb_M → Prop} {mM : gb_M} {T : Tw} {im : Nat → Tw} {kp : Nat → Bool} {bs : Nat → Nat} {ln fa : Nat} {st sf : Nat → Nat} {sn : Nat} {sh : Sh} {sc : Nat → Nat → Int32} {tn : Nat} (hok : okS T im kp bs ln fa st sf sn sh tn) (hM : isMW G mM T im kp bs ln fa st sf sn sh sc tn) {k i v : Int32}  (hQ : ∀ M', isMW G M' T im kp bs ln fa st sf sn sh (s_lay sh sc k i v) tn → sm mM M' 49 60 → Q (some (.int (a_lay sh k i))) M') : Fn G 1 yX7_lay cX7_lay 4 (some .int) [.ref (gb_ad G 49), .int (k), .int (i), .int (v)] mM Q := by
  obtain ⟨s, se, le, rp, te, la, ce, tm, x3, x4, x5, x6, x7, x11, x12, x13, x14, x15, x16, x26, h49, h50, h51, h52, h53, h54, h55, h56, h57, h58, h59, h60, htm, hpg, hIm, hSe, hLa, hLe, hCe⟩ := hM
  have ok := hok.1
  have hn4 := ok.1
  have hst9 := hok.2.1
  have hln := hok.2.2.2.1
  have hsn6 := hok.2.2.2.2.2.2.1
  have hN := hW.2.2.1
  refine Fn.of hW.1 [(0, .ref (gb_ad G 49)), (1, .int (k)), (2, .int (i)), (3, .int (v))] (by decide) (Nat.le_of_ble_eq_true rfl) rfl ?_
  intro X O
  refine w_iload_n (n := 1) O dX7_lay_0 rfl rfl rfl ?_
  refine w_i2l (n := 2) O dX7_lay_1 rfl ?_
  refine w_lconst (n := 3) O dX7_lay_2 (v := lN 0) (by decide) rfl ?_
  refine w_ldc2 (n := 6) O dX7_lay_3 uc_X7_202 rfl ?_
  refine w_topl (lN 3) (by decide) ?_
  refine w_cS (n := 9) (ro := some (.int (bI (wIn (k) (nI 0) (nI 3))))) (R := fun mM' => mM = mM') (st := []) (st1 := [.int (bI (wIn (k) (nI 0) (nI 3)))]) (As := [.long ((k).toInt64), .long (lN 0), .long (lN 3)]) O dX7_lay_6 ul_X7_50 um_X7_in (f_X7_in (x := (k)) (y := (nI 0)) (z := (nI 3)) hW rfl (nI_l (by decide)).symm (nI_l (by decide)).symm ⟨rfl, rfl⟩) rfl rfl rfl (by decide) (Nat.le_of_ble_eq_true rfl) rfl (fun mhM_1 hM_1 => ?_)
  subst hM_1
  refine w_if_neB (n := 12) (tgt := 14) O dX7_lay_9 (by decide) rfl (fun c_2 => ?_) (fun c_2 => ?_)
  · skip
    have hr_j := c_2
    obtain ⟨j, ja, jb, rfl⟩ := wIn_t (by omega) c_2 (by omega)
    have cl_j : (nI j).toNatClampNeg = j := nI_clamp (by omega)
    refine w_aload_n (n := 15) O dX7_lay_14 rfl rfl rfl ?_
    refine w_getf (n := 18) O 28 dX7_lay_15 (by omega) h49 rfl (by decide) uX7 uf_X7_39 rfl rfl ?_
    refine w_iload_n (n := 19) O dX7_lay_18 rfl rfl rfl ?_
    refine w_ialdA (n := 20) O dX7_lay_19 hW.2.1 (by omega) h58 (by omega) (by decide) rfl ?_
    refine w_top (laM (sh j)) (hLa j (by omega)) ?_
    refine w_bipush (n := 22) O dX7_lay_20 (v := (-4)) (by decide) rfl ?_
    refine w_icmp_ne (n := 25) (tgt := 28) O dX7_lay_22 (by decide) rfl (fun c_3 => ?_) (fun c_3 => ?_)
    · skip
      obtain ⟨q0, hq0⟩ := laM_s c_3
      have hqb := hok.2.2.2.2.2.2.2.2.1 j (by omega) q0 hq0
      have hle0 := hLe j (by omega) q0 hq0
      have hla0 : la j = nI q0.1 := by rw [hLa j (by omega), hq0]; rfl
      refine w_iload_n (n := 29) O dX7_lay_28 rfl rfl rfl ?_
      refine w_i2l (n := 30) O dX7_lay_29 rfl ?_
      refine w_lconst (n := 31) O dX7_lay_30 (v := lN 0) (by decide) rfl ?_
      refine w_aload_n (n := 32) O dX7_lay_31 rfl rfl rfl ?_
      refine w_getf (n := 35) O 29 dX7_lay_32 (by omega) h49 rfl (by decide) uX7 uf_X7_42 rfl rfl ?_
      refine w_iload_n (n := 36) O dX7_lay_35 rfl rfl rfl ?_
      refine w_ialdN (n := 37) O dX7_lay_36 hW.2.1 (by omega) h59 (by omega) (by decide) rfl ?_
      refine w_top (nI q0.2) (by rw [hle0]) ?_
      refine w_iconst (n := 38) O dX7_lay_37 (v := (nI 1)) (by decide) rfl ?_
      refine w_isub (n := 39) O dX7_lay_38 rfl ?_
      refine w_i2l (n := 40) O dX7_lay_39 rfl ?_
      refine w_cS (n := 43) (ro := some (.int (bI (wIn (i) (nI 0) (((nI (q0.2)) - (nI (1)))))))) (R := fun mM' => mM = mM') (st := []) (st1 := [.int (bI (wIn (i) (nI 0) (((nI (q0.2)) - (nI (1))))))]) (As := [.long ((i).toInt64), .long (lN 0), .long ((((nI (q0.2)) - (nI (1)))).toInt64)]) O dX7_lay_40 ul_X7_50 um_X7_in (f_X7_in (x := (i)) (y := (nI 0)) (z := (((nI (q0.2)) - (nI (1))))) hW rfl (nI_l (by decide)).symm rfl ⟨rfl, rfl⟩) rfl rfl rfl (by decide) (Nat.le_of_ble_eq_true rfl) rfl (fun mhM_4 hM_4 => ?_)
      subst hM_4
      refine w_if_neB (n := 46) (tgt := 49) O dX7_lay_43 (by decide) rfl (fun c_5 => ?_) (fun c_5 => ?_)
      · skip
        have hin := c_5
        obtain ⟨p, hp, rfl⟩ := isGv_t (n := q0.2) (by omega) c_5
        have cl_p : (nI p).toNatClampNeg = p := nI_clamp (by omega)
        refine w_aload_n (n := 50) O dX7_lay_49 rfl rfl rfl ?_
        refine w_getf (n := 53) O 30 dX7_lay_50 (by omega) h49 rfl (by decide) uX7 uf_X7_45 rfl rfl ?_
        refine w_bipush (n := 55) O dX7_lay_53 (v := (nI 40)) (by decide) rfl ?_
        refine w_iload_n (n := 56) O dX7_lay_55 rfl rfl rfl ?_
        refine w_imulN (n := 57) O dX7_lay_56 rfl ?_
        refine w_iload_n (n := 58) O dX7_lay_57 rfl rfl rfl ?_
        refine w_iaddN (n := 59) O dX7_lay_58 rfl ?_
        refine w_aload_n (n := 60) O dX7_lay_59 rfl rfl rfl ?_
        refine w_getf (n := 63) O 28 dX7_lay_60 (by omega) h49 rfl (by decide) uX7 uf_X7_39 rfl rfl ?_
        refine w_iload_n (n := 64) O dX7_lay_63 rfl rfl rfl ?_
        refine w_ialdA (n := 65) O dX7_lay_64 hW.2.1 (by omega) h58 (by omega) (by decide) rfl ?_
        refine w_top (nI q0.1) hla0 ?_
        refine w_if_neN (n := 68) (tgt := 78) O dX7_lay_65 (by omega) (by decide) rfl (fun c_6 => ?_) (fun c_6 => ?_)
        · skip
          refine w_aload_n (n := 79) O dX7_lay_78 rfl rfl rfl ?_
          refine w_getf (n := 82) O 28 dX7_lay_79 (by omega) h49 rfl (by decide) uX7 uf_X7_39 rfl rfl ?_
          refine w_iload_n (n := 83) O dX7_lay_82 rfl rfl rfl ?_
          refine w_ialdA (n := 84) O dX7_lay_83 hW.2.1 (by omega) h58 (by omega) (by decide) rfl ?_
          refine w_top (nI q0.1) hla0 ?_
          refine w_iconst (n := 85) O dX7_lay_84 (v := (nI 1)) (by decide) rfl ?_
          refine w_icmp_neN (n := 88) (tgt := 98) O dX7_lay_85 (by omega) (by omega) (by decide) rfl (fun c_7 => ?_) (fun c_7 => ?_)
          · skip
            refine w_iload_n (n := 99) O dX7_lay_98 rfl rfl rfl ?_
            have hlv : (v) = laneV q0.1 v := by unfold laneV; rw [if_neg c_6, if_neg c_7]
            refine w_iastA (n := 100) O dX7_lay_99 hW.2.1 (by omega) h60 (by omega) (by decide) rfl ?_
            refine w_iconst (n := 101) O dX7_lay_100 (v := (nI 1)) (by decide) rfl ?_
            refine w_iret O dX7_lay_101 ?_
            have e0 : a_lay sh (nI j) (nI p) = (nI (1)) := by unfold a_lay; rw [if_pos hr_j, show layF sh (nI j) (nI p) = 0 by unfold layF; rw [cl_j, hq0]; exact flt_ok hqb.2 hin]; decide
            have e1 : s_lay sh sc (nI j) (nI p) v = upC sc j (upd (sc j) p (laneV q0.1 v)) := by unfold s_lay; rw [show layF sh (nI j) (nI p) = 0 by unfold layF; rw [cl_j, hq0]; exact flt_ok hqb.2 hin, cl_j, cl_p, hq0]; exact if_pos ⟨hr_j, rfl⟩
            rw [e0, e1] at hQ
            try dsimp only at hQ
            exact hQ ((va_up mM (60) (IA G 160 (upd (ce) (((40 * j) + p)) (v))))) ⟨_, _, _, _, _, _, _, _, _, _, _, _, _, _, _, _, _, _, _, _, ((va_up_ne _ _ (by decide)).trans h49), ((va_up_ne _ _ (by decide)).trans h50), ((va_up_ne _ _ (by decide)).trans h51), ((va_up_ne _ _ (by decide)).trans h52), ((va_up_ne _ _ (by decide)).trans h53), ((va_up_ne _ _ (by decide)).trans h54), ((va_up_ne _ _ (by decide)).trans h55), ((va_up_ne _ _ (by decide)).trans h56), ((va_up_ne _ _ (by decide)).trans h57), ((va_up_ne _ _ (by decide)).trans h58), ((va_up_ne _ _ (by decide)).trans h59), (va_up_self _ _ _), htm, hpg, hIm, hSe, hLa, hLe, (fun k2 hk2 i2 hi2 => by unfold upC upd; by_cases e9 : k2 = j; (subst e9; rw [if_pos rfl]; by_cases e8 : i2 = p; (rw [if_pos (by omega), if_pos e8]; exact hlv); (rw [if_neg (by omega), if_neg e8]; exact hCe k2 hk2 i2 hi2)); (rw [if_neg (by omega), if_neg e9]; exact hCe k2 hk2 i2 hi2))⟩ (sm.rf.up (by omega) (by omega))
          · skip
            refine w_iload_n (n := 89) O dX7_lay_88 rfl rfl rfl ?_
            refine w_bipush (n := 91) O dX7_lay_89 (v := (nI 16)) (by decide) rfl ?_
            refine w_ishl (n := 92) O dX7_lay_91 rfl ?_
            refine w_bipush (n := 94) O dX7_lay_92 (v := (nI 16)) (by decide) rfl ?_
            refine w_ishr (n := 95) O dX7_lay_94 rfl ?_
            refine w_goto (tgt := 99) O dX7_lay_95 (by decide) ?_
            have hlv : (((((v) <<< ((nI (16)) &&& 31))) >>> ((nI (16)) &&& 31))) = laneV q0.1 v := by unfold laneV; rw [if_neg c_6, if_pos c_7]; exact shI16 v
            refine w_iastA (n := 100) O dX7_lay_99 hW.2.1 (by omega) h60 (by omega) (by decide) rfl ?_
            refine w_iconst (n := 101) O dX7_lay_100 (v := (nI 1)) (by decide) rfl ?_
            refine w_iret O dX7_lay_101 ?_
            have e0 : a_lay sh (nI j) (nI p) = (nI (1)) := by unfold a_lay; rw [if_pos hr_j, show layF sh (nI j) (nI p) = 0 by unfold layF; rw [cl_j, hq0]; exact flt_ok hqb.2 hin]; decide
            have e1 : s_lay sh sc (nI j) (nI p) v = upC sc j (upd (sc j) p (laneV q0.1 v)) := by unfold s_lay; rw [show layF sh (nI j) (nI p) = 0 by unfold layF; rw [cl_j, hq0]; exact flt_ok hqb.2 hin, cl_j, cl_p, hq0]; exact if_pos ⟨hr_j, rfl⟩
            rw [e0, e1] at hQ
            try dsimp only at hQ
            exact hQ ((va_up mM (60) (IA G 160 (upd (ce) (((40 * j) + p)) (((((v) <<< ((nI (16)) &&& 31))) >>> ((nI (16)) &&& 31))))))) ⟨_, _, _, _, _, _, _, _, _, _, _, _, _, _, _, _, _, _, _, _, ((va_up_ne _ _ (by decide)).trans h49), ((va_up_ne _ _ (by decide)).trans h50), ((va_up_ne _ _ (by decide)).trans h51), ((va_up_ne _ _ (by decide)).trans h52), ((va_up_ne _ _ (by decide)).trans h53), ((va_up_ne _ _ (by decide)).trans h54), ((va_up_ne _ _ (by decide)).trans h55), ((va_up_ne _ _ (by decide)).trans h56), ((va_up_ne _ _ (by decide)).trans h57), ((va_up_ne _ _ (by decide)).trans h58), ((va_up_ne _ _ (by decide)).trans h59), (va_up_self _ _ _), htm, hpg, hIm, hSe, hLa, hLe, (fun k2 hk2 i2 hi2 => by unfold upC upd; by_cases e9 : k2 = j; (subst e9; rw [if_pos rfl]; by_cases e8 : i2 = p; (rw [if_pos (by omega), if_pos e8]; exact hlv); (rw [if_neg (by omega), if_neg e8]; exact hCe k2 hk2 i2 hi2)); (rw [if_neg (by omega), if_neg e9]; exact hCe k2 hk2 i2 hi2))⟩ (sm.rf.up (by omega) (by omega))
        · skip
          refine w_iload_n (n := 69) O dX7_lay_68 rfl rfl rfl ?_
          refine w_bipush (n := 71) O dX7_lay_69 (v := (nI 24)) (by decide) rfl ?_
          refine w_ishl (n := 72) O dX7_lay_71 rfl ?_
          refine w_bipush (n := 74) O dX7_lay_72 (v := (nI 24)) (by decide) rfl ?_
          refine w_ishr (n := 75) O dX7_lay_74 rfl ?_
          refine w_goto (tgt := 99) O dX7_lay_75 (by decide) ?_
          have hlv : (((((v) <<< ((nI (24)) &&& 31))) >>> ((nI (24)) &&& 31))) = laneV q0.1 v := by unfold laneV; rw [if_pos c_6]; exact shI24 v
          refine w_iastA (n := 100) O dX7_lay_99 hW.2.1 (by omega) h60 (by omega) (by decide) rfl ?_
          refine w_iconst (n := 101) O dX7_lay_100 (v := (nI 1)) (by decide) rfl ?_
          refine w_iret O dX7_lay_101 ?_
          have e0 : a_lay sh (nI j) (nI p) = (nI (1)) := by unfold a_lay; rw [if_pos hr_j, show layF sh (nI j) (nI p) = 0 by unfold layF; rw [cl_j, hq0]; exact flt_ok hqb.2 hin]; decide
          have e1 : s_lay sh sc (nI j) (nI p) v = upC sc j (upd (sc j) p (laneV q0.1 v)) := by unfold s_lay; rw [show layF sh (nI j) (nI p) = 0 by unfold layF; rw [cl_j, hq0]; exact flt_ok hqb.2 hin, cl_j, cl_p, hq0]; exact if_pos ⟨hr_j, rfl⟩
          rw [e0, e1] at hQ
          try dsimp only at hQ
          exact hQ ((va_up mM (60) (IA G 160 (upd (ce) (((40 * j) + p)) (((((v) <<< ((nI (24)) &&& 31))) >>> ((nI (24)) &&& 31))))))) ⟨_, _, _, _, _, _, _, _, _, _, _, _, _, _, _, _, _, _, _, _, ((va_up_ne _ _ (by decide)).trans h49), ((va_up_ne _ _ (by decide)).trans h50), ((va_up_ne _ _ (by decide)).trans h51), ((va_up_ne _ _ (by decide)).trans h52), ((va_up_ne _ _ (by decide)).trans h53), ((va_up_ne _ _ (by decide)).trans h54), ((va_up_ne _ _ (by decide)).trans h55), ((va_up_ne _ _ (by decide)).trans h56), ((va_up_ne _ _ (by decide)).trans h57), ((va_up_ne _ _ (by decide)).trans h58), ((va_up_ne _ _ (by decide)).trans h59), (va_up_self _ _ _), htm, hpg, hIm, hSe, hLa, hLe, (fun k2 hk2 i2 hi2 => by unfold upC upd; by_cases e9 : k2 = j; (subst e9; rw [if_pos rfl]; by_cases e8 : i2 = p; (rw [if_pos (by omega), if_pos e8]; exact hlv); (rw [if_neg (by omega), if_neg e8]; exact hCe k2 hk2 i2 hi2)); (rw [if_neg (by omega), if_neg e9]; exact hCe k2 hk2 i2 hi2))⟩ (sm.rf.up (by omega) (by omega))
      · skip
        refine w_bipush (n := 48) O dX7_lay_46 (v := (-12)) (by decide) rfl ?_
        refine w_iret O dX7_lay_48 ?_
        have e0 : a_lay sh (nI j) i = -12 := by unfold a_lay; rw [if_pos hr_j, show layF sh (nI j) i = 2 by unfold layF; rw [cl_j, hq0]; exact flt_no hqb.2 c_5]; decide
        have e1 : s_lay sh sc (nI j) i v = sc := by unfold s_lay; rw [show layF sh (nI j) i = 2 by unfold layF; rw [cl_j, hq0]; exact flt_no hqb.2 c_5]; exact if_neg (fun z => absurd z.2 (by decide))
        rw [e0, e1] at hQ
        try dsimp only at hQ
        exact hQ (mM) ⟨_, _, _, _, _, _, _, _, _, _, _, _, _, _, _, _, _, _, _, _, h49, h50, h51, h52, h53, h54, h55, h56, h57, h58, h59, h60, htm, hpg, hIm, hSe, hLa, hLe, hCe⟩ sm.rf
    · skip
      refine w_bipush (n := 27) O dX7_lay_25 (v := (-11)) (by decide) rfl ?_
      refine w_iret O dX7_lay_27 ?_
      have e0 : a_lay sh (nI j) i = -11 := by unfold a_lay; rw [if_pos hr_j, show layF sh (nI j) i = 1 by unfold layF; rw [cl_j, laM_n (hok.2.2.2.2.2.2.2.2.1 j (by omega)) c_3]; rfl]; decide
      have e1 : s_lay sh sc (nI j) i v = sc := by unfold s_lay; rw [show layF sh (nI j) i = 1 by unfold layF; rw [cl_j, laM_n (hok.2.2.2.2.2.2.2.2.1 j (by omega)) c_3]; rfl]; exact if_neg (fun z => absurd z.2 (by decide))
      rw [e0, e1] at hQ
      try dsimp only at hQ
      exact hQ (mM) ⟨_, _, _, _, _, _, _, _, _, _, _, _, _, _, _, _, _, _, _, _, h49, h50, h51, h52, h53, h54, h55, h56, h57, h58, h59, h60, htm, hpg, hIm, hSe, hLa, hLe, hCe⟩ sm.rf
  · skip
    refine w_iconst (n := 13) O dX7_lay_12 (v := (-1)) (by decide) rfl ?_
    refine w_iret O dX7_lay_13 ?_
    have e0 : a_lay sh k i = -1 := by unfold a_lay; rw [if_neg (by rw [c_2]; decide)]
    have e1 : s_lay sh sc k i v = sc := by unfold s_lay; rw [if_neg (fun z => by rw [c_2] at z; exact absurd z.1 (by decide))]
    rw [e0, e1] at hQ
    try dsimp only at hQ
    exact hQ (mM) ⟨_, _, _, _, _, _, _, _, _, _, _, _, _, _, _, _, _, _, _, _, h49, h50, h51, h52, h53, h54, h55, h56, h57, h58, h59, h60, htm, hpg, hIm, hSe, hLa, hLe, hCe⟩ sm.rf
