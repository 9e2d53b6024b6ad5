theorem in_lt {a b : Int64} (h : ¬ lg_cmp a b < 0) : ¬ a < b := fun q => h (by
  unfold lg_cmp
  rw [if_neg (fun z => by have h1 := Int64.lt_iff_toInt_lt.mp q; have h2 := Int64.lt_iff_toInt_lt.mp z; omega), if_neg (fun z => by rw [z] at q; exact absurd q (Int64.lt_irrefl))]
  decide)
theorem in_lt2 {a b : Int64} (h : lg_cmp a b < 0) : a < b := by
  unfold lg_cmp at h
  split at h
  · exact absurd h (by decide)
  · split at h
    · exact absurd h (by decide)
    · rename_i h1 h2
      rw [Int64.lt_iff_toInt_lt]
      have e1 := mt Int64.lt_iff_toInt_lt.mpr h1
      have e2 : ¬ a.toInt = b.toInt := fun z => h2 (Int64.toInt_inj.mp z)
      omega
theorem in_gt {a b : Int64} (h : ¬ 0 < lg_cmp a b) : ¬ b < a := fun q => h (by
  unfold lg_cmp
  rw [if_pos q]
  decide)
theorem in_gt2 {a b : Int64} (h : 0 < lg_cmp a b) : b < a := by
  unfold lg_cmp at h
  split at h
  · assumption
  · split at h
    · exact absurd h (by decide)
    · exact absurd h (by decide)
set_option maxRecDepth 100000 in
set_option maxHeartbeats 4000000 in
theorem f_X7_in0 {G : gb_G} (hW : gW G) {Q : Option Value → gb_M → Prop} {mM : gb_M} {x y z : Int32}  (hQ : Q (some (.int (bI (wIn x y z)))) mM) : Fn G 0 yX7_in cX7_in 6 (some .boolean) [.long (x.toInt64), .long (y.toInt64), .long (z.toInt64)] mM Q := by
  have hN := hW.2.2.1
  refine Fn.of hW.1 [(0, .long (x.toInt64)), (2, .long (y.toInt64)), (4, .long (z.toInt64))] (by decide) (Nat.le_of_ble_eq_true rfl) rfl ?_
  intro X O
  refine w_lload_n (n := 1) O dX7_in_0 rfl rfl rfl ?_
  refine w_lload_n (n := 2) O dX7_in_1 rfl rfl rfl ?_
  refine w_lcmp (n := 3) O dX7_in_2 rfl ?_
  refine w_if_lt (n := 6) (tgt := 17) O dX7_in_3 (by decide) rfl (fun c_1 => ?_) (fun c_1 => ?_)
  · skip
    refine w_iconst (n := 18) O dX7_in_17 (v := (nI 0)) (by decide) rfl ?_
    refine w_zret O dX7_in_18 (by decide) ?_
    have e : wIn x y z = false := by unfold wIn; rw [decide_eq_false (fun q => Int32.not_lt.mpr q (in_64.mp (in_lt2 c_1)))]; rfl
    rw [e] at hQ
    exact hQ
  · skip
    refine w_lload_n (n := 7) O dX7_in_6 rfl rfl rfl ?_
    refine w_lload (n := 9) O dX7_in_7 rfl rfl ?_
    refine w_lcmp (n := 10) O dX7_in_9 rfl ?_
    refine w_if_gt (n := 13) (tgt := 17) O dX7_in_10 (by decide) rfl (fun c_2 => ?_) (fun c_2 => ?_)
    · skip
      refine w_iconst (n := 18) O dX7_in_17 (v := (nI 0)) (by decide) rfl ?_
      refine w_zret O dX7_in_18 (by decide) ?_
      have e : wIn x y z = false := by unfold wIn; rw [decide_eq_false (p := x ≤ z) (fun q => Int32.not_lt.mpr q (in_64.mp (in_gt2 c_2))), Bool.and_false]
      rw [e] at hQ
      exact hQ
    · skip
      refine w_iconst (n := 14) O dX7_in_13 (v := (nI 1)) (by decide) rfl ?_
      refine w_goto (tgt := 18) O dX7_in_14 (by decide) ?_
      refine w_zret O dX7_in_18 (by decide) ?_
      have e : wIn x y z = true := by unfold wIn; rw [decide_eq_true (Int32.not_lt.mp (fun q => in_lt c_1 (in_64.mpr q))), decide_eq_true (Int32.not_lt.mp (fun q => in_gt c_2 (in_64.mpr q)))]; rfl
      rw [e] at hQ
      exact hQ
theorem f_X7_in {G : gb_G} (hW : gW G) {Q : Option Value → gb_M → Prop} {mM : gb_M} {aL bL cL : Int64} {x y z : Int32} (haL : aL = x.toInt64) (hbL : bL = y.toInt64) (hcL : cL = z.toInt64) (hQ : Q (some (.int (bI (wIn x y z)))) mM) : Fn G 0 yX7_in cX7_in 6 (some .boolean) [.long aL, .long bL, .long cL] mM Q := by
  subst haL; subst hbL; subst hcL
  exact f_X7_in0 hW hQ
set_option maxRecDepth 100000 in
set_option maxHeartbeats 4000000 in
theorem f_X7_isMetal {G : gb_G} (hW : gW G) {Q : Option Value → gb_M → Prop} {mM : gb_M} {g : Int32} (hQ : Q (some (.int (bI (wIn g (nI 0) (nI 2))))) mM) : Fn G 1 yX7_isMetal cX7_isMetal 1 (some .boolean) [.int (g)] mM Q := by
  have hN := hW.2.2.1
  refine Fn.of hW.1 [(0, .int (g))] (by decide) (Nat.le_of_ble_eq_true rfl) rfl ?_
  intro X O
  refine w_iload_n (n := 1) O dX7_isMetal_0 rfl rfl rfl ?_
  refine w_i2l (n := 2) O dX7_isMetal_1 rfl ?_
  refine w_lconst (n := 3) O dX7_isMetal_2 (v := lN 0) (by decide) rfl ?_
  refine w_ldc2 (n := 6) O dX7_isMetal_3 uc_X7_142 rfl ?_
  refine w_topl (lN 2) (by decide) ?_
  refine w_cS (n := 9) (ro := some (.int (bI (wIn (g) (nI 0) (nI 2))))) (R := fun mM' => mM = mM') (st := []) (st1 := [.int (bI (wIn (g) (nI 0) (nI 2)))]) (As := [.long ((g).toInt64), .long (lN 0), .long (lN 2)]) O dX7_isMetal_6 ul_X7_50 um_X7_in (f_X7_in (x := (g)) (y := (nI 0)) (z := (nI 2)) hW rfl (nI_l (by decide)).symm (nI_l (by decide)).symm ⟨rfl, rfl⟩) rfl rfl rfl (by decide) (Nat.le_of_ble_eq_true rfl) rfl (fun mhM_1 hM_1 => ?_)
  subst hM_1
  refine w_zret O dX7_isMetal_9 (bI_nar _) ?_
  exact hQ
set_option maxRecDepth 100000 in
set_option maxHeartbeats 4000000 in
theorem f_X7_isGiver {G : gb_G} (hW : gW G) {Q : Option Value → gb_M → Prop} {mM : gb_M} {s : Nat → Nat} {T : Tw} {lo li : Nat} {to : Option Nat} {tm : Nat} (hV : isV G mM s T lo li to tm) (ok : okT T) {g : Int32}  (hQ : Q (some (.int (bI (isGv g T.2.2.2.1)))) mM) : Fn G 1 yX7_isGiver cX7_isGiver 2 (some .boolean) [.ref (gb_ad G 49), .int (g)] mM Q := by
  obtain ⟨h50, hpg, x3, x4, x5, x6, x7, x9, x10, x11, x12, x13, x14, x15, x16, x24, x26, x31, h49⟩ := hV
  have hV : isV G mM s T lo li to tm := ⟨h50, hpg, x3, x4, x5, x6, x7, x9, x10, x11, x12, x13, x14, x15, x16, x24, x26, x31, h49⟩
  have hn4 := ok.1
  have hN := hW.2.2.1
  refine Fn.of hW.1 [(0, .ref (gb_ad G 49)), (1, .int (g))] (by decide) (Nat.le_of_ble_eq_true rfl) rfl ?_
  intro X O
  refine w_iload_n (n := 1) O dX7_isGiver_0 rfl rfl rfl ?_
  refine w_i2l (n := 2) O dX7_isGiver_1 rfl ?_
  refine w_lconst (n := 3) O dX7_isGiver_2 (v := lN 0) (by decide) rfl ?_
  refine w_aload_n (n := 4) O dX7_isGiver_3 rfl rfl rfl ?_
  refine w_getf (n := 7) O 1 dX7_isGiver_4 (by omega) h49 rfl (by decide) uX7 uf_X7_136 rfl rfl ?_
  refine w_iconst (n := 8) O dX7_isGiver_7 (v := (nI 1)) (by decide) rfl ?_
  refine w_isub (n := 9) O dX7_isGiver_8 rfl ?_
  refine w_i2l (n := 10) O dX7_isGiver_9 rfl ?_
  refine w_cS (n := 13) (ro := some (.int (bI (wIn (g) (nI 0) (((nI (T.2.2.2.1)) - (nI (1)))))))) (R := fun mM' => mM = mM') (st := []) (st1 := [.int (bI (wIn (g) (nI 0) (((nI (T.2.2.2.1)) - (nI (1))))))]) (As := [.long ((g).toInt64), .long (lN 0), .long ((((nI (T.2.2.2.1)) - (nI (1)))).toInt64)]) O dX7_isGiver_10 ul_X7_50 um_X7_in (f_X7_in (x := (g)) (y := (nI 0)) (z := (((nI (T.2.2.2.1)) - (nI (1))))) hW rfl (nI_l (by decide)).symm rfl ⟨rfl, rfl⟩) rfl rfl rfl (by decide) (Nat.le_of_ble_eq_true rfl) rfl (fun mhM_1 hM_1 => ?_)
  subst hM_1
  refine w_zret O dX7_isGiver_13 (bI_nar _) ?_
  exact hQ
set_option maxRecDepth 100000 in
set_option maxHeartbeats 4000000 in
theorem f_X7_asked {G : gb_G} (hW : gW G) {Q : Option Value → gb_M → Prop} {mM : gb_M} {s : Nat → Nat} {T : Tw} {lo li : Nat} {to : Option Nat} {tm : Nat} (hV : isV G mM s T lo li to tm) (ok : okT T)  (hQ : Q (some (.int (nI T.2.2.2.2.1))) mM) : Fn G 0 yX7_asked cX7_asked 1 (some .int) [.ref (gb_ad G 49)] mM Q := by
  obtain ⟨h50, hpg, x3, x4, x5, x6, x7, x9, x10, x11, x12, x13, x14, x15, x16, x24, x26, x31, h49⟩ := hV
  have hV : isV G mM s T lo li to tm := ⟨h50, hpg, x3, x4, x5, x6, x7, x9, x10, x11, x12, x13, x14, x15, x16, x24, x26, x31, h49⟩
  have hn4 := ok.1
  have hN := hW.2.2.1
  refine Fn.of hW.1 [(0, .ref (gb_ad G 49))] (by decide) (Nat.le_of_ble_eq_true rfl) rfl ?_
  intro X O
  refine w_aload_n (n := 1) O dX7_asked_0 rfl rfl rfl ?_
  refine w_getf (n := 4) O 0 dX7_asked_1 (by omega) h49 rfl (by decide) uX7 uf_X7_7 rfl rfl ?_
  refine w_bipush (n := 6) O dX7_asked_4 (v := (nI 24)) (by decide) rfl ?_
  refine w_ialdQ (n := 7) O dX7_asked_6 hW.2.1 (by omega) h50 (by omega) (by decide) rfl ?_
  refine w_bipush (n := 9) O dX7_asked_7 (v := (nI 6)) (by decide) rfl ?_
  refine w_iadd (n := 10) O dX7_asked_9 rfl ?_
  refine w_top (nI T.2.2.2.2.1) (by rw [pgI_q (by decide), hpg.2.2.2.1, Int32.sub_add_cancel]) ?_
  refine w_iret O dX7_asked_10 ?_
  exact hQ
set_option maxRecDepth 100000 in
set_option maxHeartbeats 4000000 in
theorem f_X7_holders {G : gb_G} (hW : gW G) {Q : Option Value → gb_M → Prop} {mM : gb_M} {s : Nat → Nat} {T : Tw} {lo li : Nat} {to : Option Nat} {tm : Nat} (hV : isV G mM s T lo li to tm) (ok : okT T)  (hQ : Q (some (.int (nI (sBits (fun g => decide (0 < T.1 (g * 6 + 5))) T.2.2.2.1)))) mM) : Fn G 0 yX7_holders cX7_holders 3 (some .int) [.ref (gb_ad G 49)] mM Q := by
  obtain ⟨h50, hpg, x3, x4, x5, x6, x7, x9, x10, x11, x12, x13, x14, x15, x16, x24, x26, x31, h49⟩ := hV
  have hV : isV G mM s T lo li to tm := ⟨h50, hpg, x3, x4, x5, x6, x7, x9, x10, x11, x12, x13, x14, x15, x16, x24, x26, x31, h49⟩
  have hn4 := ok.1
  have hN := hW.2.2.1
  refine Fn.of hW.1 [(0, .ref (gb_ad G 49))] (by decide) (Nat.le_of_ble_eq_true rfl) rfl ?_
  intro X O
  refine w_iconst (n := 1) O dX7_holders_0 (v := (nI 0)) (by decide) rfl ?_
  refine w_istore_n (n := 2) (lv' := [(1, .int (nI 0)), (0, .ref (gb_ad G 49))]) O dX7_holders_1 rfl (by decide) rfl rfl ?_
  refine w_iconst (n := 3) O dX7_holders_2 (v := (nI 0)) (by decide) rfl ?_
  refine w_istore_n (n := 4) (lv' := [(2, .int (nI 0)), (1, .int (nI 0)), (0, .ref (gb_ad G 49))]) O dX7_holders_3 rfl (by decide) rfl rfl ?_
  have LA : ∀ (k : Nat) (i c : Nat), T.2.2.2.1 - i = k → i ≤ T.2.2.2.1 → c = sBits (fun g => decide (0 < T.1 (g * 6 + 5))) i → Wm G X 3 Q 4 [(0, .ref (gb_ad G 49)), (1, .int (nI (c))), (2, .int (nI (i)))] [] mM := by
    intro k
    induction k using Nat.strongRecOn with
    | ind k ih_LA =>
      intro i c hk hi hc
      have hcl : c < 2 ^ i := by rw [hc]; exact sBits_lt _ i
      refine w_iload_n (n := 5) O dX7_holders_4 rfl rfl rfl ?_
      refine w_aload_n (n := 6) O dX7_holders_5 rfl rfl rfl ?_
      refine w_getf (n := 9) O 1 dX7_holders_6 (by omega) h49 rfl (by decide) uX7 uf_X7_136 rfl rfl ?_
      refine w_icmp_geN (n := 12) (tgt := 40) O dX7_holders_9 (by omega) (by omega) (by decide) rfl (fun c_1 => ?_) (fun c_1 => ?_)
      · skip
        refine w_iload_n (n := 41) O dX7_holders_40 rfl rfl rfl ?_
        refine w_iret O dX7_holders_41 ?_
        rw [show T.2.2.2.1 = i by omega, ← hc] at hQ
        exact hQ
      · skip
        have hk1 := ok.2.1 i (by omega)
        refine w_iload_n (n := 13) O dX7_holders_12 rfl rfl rfl ?_
        refine w_aload_n (n := 14) O dX7_holders_13 rfl rfl rfl ?_
        refine w_getf (n := 17) O 0 dX7_holders_14 (by omega) h49 rfl (by decide) uX7 uf_X7_7 rfl rfl ?_
        refine w_bipush (n := 19) O dX7_holders_17 (v := (nI 16)) (by decide) rfl ?_
        refine w_iload_n (n := 20) O dX7_holders_19 rfl rfl rfl ?_
        refine w_iaddN (n := 21) O dX7_holders_20 rfl ?_
        refine w_ialdP (n := 22) (v := T.1 (i * 6 + 5)) O dX7_holders_21 hW.2.1 (by omega) h50 (by omega) (by decide) (by omega) (hpg.1 i (by omega)).2.2.2.2 rfl ?_
        refine w_if_leN (n := 25) (tgt := 31) O dX7_holders_22 (by omega) (by decide) rfl (fun c_2 => ?_) (fun c_2 => ?_)
        · skip
          refine w_iconst (n := 32) O dX7_holders_31 (v := (nI 0)) (by decide) rfl ?_
          refine w_ior (n := 33) O dX7_holders_32 rfl ?_
          refine w_top (nI c) (by rw [nI_or, Nat.or_zero]) ?_
          refine w_istore_n (n := 34) (lv' := [(1, .int (nI (c))), (0, .ref (gb_ad G 49)), (2, .int (nI (i)))]) O dX7_holders_33 rfl (by decide) rfl rfl ?_
          refine w_iincN (n := 37) (lv' := [(2, .int (nI (i + 1))), (1, .int (nI (c))), (0, .ref (gb_ad G 49))]) O dX7_holders_34 rfl (by decide) rfl rfl ?_
          refine w_goto (tgt := 4) O dX7_holders_37 (by decide) ?_
          refine w_lv (lv2 := [(0, .ref (gb_ad G 49)), (1, .int (nI (c))), (2, .int (nI (i + 1)))]) [2, 1, 0] rfl ?_
          exact ih_LA _ (by omega) (i + 1) (c) rfl (by omega) (by simp [sBits, *])
        · skip
          refine w_iconst (n := 26) O dX7_holders_25 (v := (nI 1)) (by decide) rfl ?_
          refine w_iload_n (n := 27) O dX7_holders_26 rfl rfl rfl ?_
          refine w_ishl (n := 28) O dX7_holders_27 rfl ?_
          refine w_goto (tgt := 32) O dX7_holders_28 (by decide) ?_
          refine w_ior (n := 33) O dX7_holders_32 rfl ?_
          refine w_top (nI (c + 2 ^ i)) (nI_orbit hcl (by omega)) ?_
          refine w_istore_n (n := 34) (lv' := [(1, .int (nI (c + 2 ^ i))), (0, .ref (gb_ad G 49)), (2, .int (nI (i)))]) O dX7_holders_33 rfl (by decide) rfl rfl ?_
          refine w_iincN (n := 37) (lv' := [(2, .int (nI (i + 1))), (1, .int (nI (c + 2 ^ i))), (0, .ref (gb_ad G 49))]) O dX7_holders_34 rfl (by decide) rfl rfl ?_
          refine w_goto (tgt := 4) O dX7_holders_37 (by decide) ?_
          refine w_lv (lv2 := [(0, .ref (gb_ad G 49)), (1, .int (nI (c + 2 ^ i))), (2, .int (nI (i + 1)))]) [2, 1, 0] rfl ?_
          exact ih_LA _ (by omega) (i + 1) (c + 2 ^ i) rfl (by omega) (by simp [sBits, *])
  refine w_lv (lv2 := [(0, .ref (gb_ad G 49)), (1, .int (nI 0)), (2, .int (nI 0))]) [2, 1, 0] rfl ?_
  exact LA _ 0 0 rfl (Nat.zero_le _) rfl
set_option maxRecDepth 100000 in
set_option maxHeartbeats 4000000 in
theorem f_X7_owes {G : gb_G} (hW : gW G) {Q : Option Value → gb_M → Prop} {mM : gb_M} {s : Nat → Nat} {T : Tw} {lo li : Nat} {to : Option Nat} {tm : Nat} (hV : isV G mM s T lo li to tm) (ok : okT T) {g : Nat} (hg : g < 4)  (hQ : Q (some (.int (nI (tOwes T g)))) mM) : Fn G 0 yX7_owes cX7_owes 4 (some .int) [.ref (gb_ad G 49), .int (nI (g))] mM Q := by
  obtain ⟨h50, hpg, x3, x4, x5, x6, x7, x9, x10, x11, x12, x13, x14, x15, x16, x24, x26, x31, h49⟩ := hV
  have hV : isV G mM s T lo li to tm := ⟨h50, hpg, x3, x4, x5, x6, x7, x9, x10, x11, x12, x13, x14, x15, x16, x24, x26, x31, h49⟩
  have hn4 := ok.1
  have hN := hW.2.2.1
  refine Fn.of hW.1 [(0, .ref (gb_ad G 49)), (1, .int (nI (g)))] (by decide) (Nat.le_of_ble_eq_true rfl) rfl ?_
  intro X O
  have hk := ok.2.1 g hg
  refine w_aload_n (n := 1) O dX7_owes_0 rfl rfl rfl ?_
  refine w_getf (n := 4) O 0 dX7_owes_1 (by omega) h49 rfl (by decide) uX7 uf_X7_7 rfl rfl ?_
  refine w_iconst (n := 5) O dX7_owes_4 (v := (nI 4)) (by decide) rfl ?_
  refine w_iload_n (n := 6) O dX7_owes_5 rfl rfl rfl ?_
  refine w_iaddN (n := 7) O dX7_owes_6 rfl ?_
  refine w_ialdP (n := 8) (v := T.1 (g * 6 + 1)) O dX7_owes_7 hW.2.1 (by omega) h50 (by omega) (by decide) (by omega) (hpg.1 g (by omega)).2.1 rfl ?_
  refine w_istore_n (n := 9) (lv' := [(2, .int (nI (T.1 (g * 6 + 1)))), (0, .ref (gb_ad G 49)), (1, .int (nI (g)))]) O dX7_owes_8 rfl (by decide) rfl rfl ?_
  refine w_aload_n (n := 10) O dX7_owes_9 rfl rfl rfl ?_
  refine w_getf (n := 13) O 0 dX7_owes_10 (by omega) h49 rfl (by decide) uX7 uf_X7_7 rfl rfl ?_
  refine w_iload_n (n := 14) O dX7_owes_13 rfl rfl rfl ?_
  refine w_ialdP (n := 15) (v := T.1 (g * 6 + 0)) O dX7_owes_14 hW.2.1 (by omega) h50 (by omega) (by decide) (by omega) (hpg.1 g (by omega)).1 rfl ?_
  refine w_istore_n (n := 16) (lv' := [(3, .int (nI (T.1 (g * 6 + 0)))), (2, .int (nI (T.1 (g * 6 + 1)))), (0, .ref (gb_ad G 49)), (1, .int (nI (g)))]) O dX7_owes_15 rfl (by decide) rfl rfl ?_
  refine w_iload_n (n := 17) O dX7_owes_16 rfl rfl rfl ?_
  refine w_if_neN (n := 20) (tgt := 24) O dX7_owes_17 (by omega) (by decide) rfl (fun c_1 => ?_) (fun c_1 => ?_)
  · skip
    refine w_iload_n (n := 25) O dX7_owes_24 rfl rfl rfl ?_
    refine w_iconst (n := 26) O dX7_owes_25 (v := (nI 1)) (by decide) rfl ?_
    refine w_icmp_neN (n := 29) (tgt := 35) O dX7_owes_26 (by omega) (by omega) (by decide) rfl (fun c_2 => ?_) (fun c_2 => ?_)
    · skip
      refine w_iload_n (n := 36) O dX7_owes_35 rfl rfl rfl ?_
      refine w_iconst (n := 37) O dX7_owes_36 (v := (nI 2)) (by decide) rfl ?_
      refine w_icmp_neN (n := 40) (tgt := 46) O dX7_owes_37 (by omega) (by omega) (by decide) rfl (fun c_3 => ?_) (fun c_3 => ?_)
      · skip
        refine w_iconst (n := 47) O dX7_owes_46 (v := (nI 2)) (by decide) rfl ?_
        refine w_iload_n (n := 48) O dX7_owes_47 rfl rfl rfl ?_
        refine w_imulN (n := 49) O dX7_owes_48 rfl ?_
        refine w_iconst (n := 50) O dX7_owes_49 (v := (nI 3)) (by decide) rfl ?_
        refine w_iaddN (n := 51) O dX7_owes_50 rfl ?_
        refine w_iret O dX7_owes_51 ?_
        have e : tOwes T g = ((2 * (T.1 (g * 6 + 1))) + 3) := by unfold tOwes sOwes; repeat (first | rw [if_pos (by omega)] | rw [if_neg (by omega)])
        rw [e] at hQ
        exact hQ
      · skip
        refine w_iconst (n := 41) O dX7_owes_40 (v := (nI 2)) (by decide) rfl ?_
        refine w_iload_n (n := 42) O dX7_owes_41 rfl rfl rfl ?_
        refine w_imulN (n := 43) O dX7_owes_42 rfl ?_
        refine w_goto (tgt := 51) O dX7_owes_43 (by decide) ?_
        refine w_iret O dX7_owes_51 ?_
        have e : tOwes T g = (2 * (T.1 (g * 6 + 1))) := by unfold tOwes sOwes; repeat (first | rw [if_pos (by omega)] | rw [if_neg (by omega)])
        rw [e] at hQ
        exact hQ
    · skip
      refine w_iload_n (n := 30) O dX7_owes_29 rfl rfl rfl ?_
      refine w_iconst (n := 31) O dX7_owes_30 (v := (nI 2)) (by decide) rfl ?_
      refine w_idivN (n := 32) O dX7_owes_31 (by omega) (by omega) (by omega) rfl ?_
      refine w_goto (tgt := 51) O dX7_owes_32 (by decide) ?_
      refine w_iret O dX7_owes_51 ?_
      have e : tOwes T g = ((T.1 (g * 6 + 1)) / 2) := by unfold tOwes sOwes; repeat (first | rw [if_pos (by omega)] | rw [if_neg (by omega)])
      rw [e] at hQ
      exact hQ
  · skip
    refine w_iload_n (n := 21) O dX7_owes_20 rfl rfl rfl ?_
    refine w_goto (tgt := 51) O dX7_owes_21 (by decide) ?_
    refine w_iret O dX7_owes_51 ?_
    have e : tOwes T g = T.1 (g * 6 + 1) := by unfold tOwes sOwes; repeat (first | rw [if_pos (by omega)] | rw [if_neg (by omega)])
    rw [e] at hQ
    exact hQ
