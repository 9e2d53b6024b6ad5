set_option maxRecDepth 100000 in
set_option maxHeartbeats 4000000 in
theorem f_X7_putsF {G : gb_G} (hW : gW G) {Q : Option Value → gb_M → Prop} {mM : gb_M} {x a1 v1 l1 : Int32} (hx : x = 0)  (hQ : Q (some (.int (-1))) mM) : Fn G 0 yX7_puts cX7_puts 6 (some .int) [.ref (gb_ad G 49), .int (x), .int (a1), .int (v1), .int (l1)] mM Q := by
  have hN := hW.2.2.1
  refine Fn.of hW.1 [(0, .ref (gb_ad G 49)), (1, .int (x)), (2, .int (a1)), (3, .int (v1)), (4, .int (l1))] (by decide) (Nat.le_of_ble_eq_true rfl) rfl ?_
  intro X O
  refine w_iload_n (n := 1) O dX7_puts_0 rfl rfl rfl ?_
  refine w_if_ne (n := 4) (tgt := 6) O dX7_puts_1 (by decide) rfl (fun c_1 => absurd hx c_1) (fun c_1 => ?_)
  refine w_iconst (n := 5) O dX7_puts_4 (v := (-1)) (by decide) rfl ?_
  refine w_iret O dX7_puts_5 ?_
  exact hQ
set_option maxRecDepth 100000 in
set_option maxHeartbeats 4000000 in
theorem f_X7_putsT {G : gb_G} (hW : gW G) {Q : Option Value → gb_M → Prop} {mM : gb_M} {s : Nat → Nat} {T : Tw} {lo li : Nat} {to : Option Nat} {tm : Nat} (hV : isV G mM s T lo li to tm) {x : Int32} (hx : ¬ x = 0) {i w : Nat} (hi5 : i < 150) (h24 : ¬ i % 30 = 24)  (hQ : ∀ M', M' 50 = IA G 150 (pgI (upN s i w)) → sm mM M' 50 50 → Q (some (.int (nI (s i)))) M') : Fn G 0 yX7_puts cX7_puts 6 (some .int) [.ref (gb_ad G 49), .int (x), .int (nI (i)), .int (nI (w)), .int (nI 0)] mM Q := by
  obtain ⟨h50, hpg, x3, x4, x5, x6, x7, x9, x10, x11, x12, x13, x14, x15, x16, x24, x26, x31, h49⟩ := hV
  have hV : isV G mM s T lo li to tm := ⟨h50, hpg, x3, x4, x5, x6, x7, x9, x10, x11, x12, x13, x14, x15, x16, x24, x26, x31, h49⟩
  have hN := hW.2.2.1
  refine Fn.of hW.1 [(0, .ref (gb_ad G 49)), (1, .int (x)), (2, .int (nI (i))), (3, .int (nI (w))), (4, .int (nI 0))] (by decide) (Nat.le_of_ble_eq_true rfl) rfl ?_
  intro X O
  refine w_iload_n (n := 1) O dX7_puts_0 rfl rfl rfl ?_
  refine w_if_ne (n := 4) (tgt := 6) O dX7_puts_1 (by decide) rfl (fun c_1 => ?_) (fun c_1 => absurd c_1 hx)
  refine w_aload_n (n := 7) O dX7_puts_6 rfl rfl rfl ?_
  refine w_getf (n := 10) O 0 dX7_puts_7 (by omega) h49 rfl (by decide) uX7 uf_X7_7 rfl rfl ?_
  refine w_iload_n (n := 11) O dX7_puts_10 rfl rfl rfl ?_
  refine w_ialdQ (n := 12) O dX7_puts_11 hW.2.1 (by omega) h50 (by omega) (by decide) rfl ?_
  refine w_iload (n := 14) O dX7_puts_12 rfl rfl ?_
  refine w_iadd (n := 15) O dX7_puts_14 rfl ?_
  refine w_istore (n := 17) (lv' := [(5, .int (((pgI s i) + (nI (0))))), (0, .ref (gb_ad G 49)), (1, .int (x)), (2, .int (nI (i))), (3, .int (nI (w))), (4, .int (nI 0))]) O dX7_puts_15 (by decide) rfl rfl ?_
  refine w_aload_n (n := 18) O dX7_puts_17 rfl rfl rfl ?_
  refine w_getf (n := 21) O 0 dX7_puts_18 (by omega) h49 rfl (by decide) uX7 uf_X7_7 rfl rfl ?_
  refine w_iload_n (n := 22) O dX7_puts_21 rfl rfl rfl ?_
  refine w_iload_n (n := 23) O dX7_puts_22 rfl rfl rfl ?_
  refine w_iload (n := 25) O dX7_puts_23 rfl rfl ?_
  refine w_isubN (n := 26) O dX7_puts_25 (by omega) rfl ?_
  refine w_iastP (n := 27) (v := (w - 0)) O dX7_puts_26 hW.2.1 (by omega) h50 (by omega) (by decide) (pgI_nv (by omega)) rfl ?_
  refine w_iload (n := 29) O dX7_puts_27 rfl rfl ?_
  refine w_iret O dX7_puts_29 ?_
  have e : (((pgI s i) + (nI (0)))) = nI (s i) := by rw [pgI_n h24]; exact (nI_add _ _).trans (by rw [Nat.add_zero])
  rw [e]
  exact hQ _ (va_up_self _ _ _) (sm.rf.up (by omega) (by omega))
set_option maxRecDepth 100000 in
set_option maxHeartbeats 4000000 in
theorem f_X7_puts6 {G : gb_G} (hW : gW G) {Q : Option Value → gb_M → Prop} {mM : gb_M} {s : Nat → Nat} {T : Tw} {lo li : Nat} {to : Option Nat} {tm : Nat} (hV : isV G mM s T lo li to tm) {x : Int32} (hx : ¬ x = 0) {i w : Nat} (hi5 : i < 150) (h24 : i % 30 = 24)  (hQ : ∀ M', M' 50 = IA G 150 (pgI (upN s i w)) → sm mM M' 50 50 → Q (some (.int (nI (s i)))) M') : Fn G 0 yX7_puts cX7_puts 6 (some .int) [.ref (gb_ad G 49), .int (x), .int (nI (i)), .int (nI (w)), .int (nI 6)] mM Q := by
  obtain ⟨h50, hpg, x3, x4, x5, x6, x7, x9, x10, x11, x12, x13, x14, x15, x16, x24, x26, x31, h49⟩ := hV
  have hV : isV G mM s T lo li to tm := ⟨h50, hpg, x3, x4, x5, x6, x7, x9, x10, x11, x12, x13, x14, x15, x16, x24, x26, x31, h49⟩
  have hN := hW.2.2.1
  refine Fn.of hW.1 [(0, .ref (gb_ad G 49)), (1, .int (x)), (2, .int (nI (i))), (3, .int (nI (w))), (4, .int (nI 6))] (by decide) (Nat.le_of_ble_eq_true rfl) rfl ?_
  intro X O
  refine w_iload_n (n := 1) O dX7_puts_0 rfl rfl rfl ?_
  refine w_if_ne (n := 4) (tgt := 6) O dX7_puts_1 (by decide) rfl (fun c_1 => ?_) (fun c_1 => absurd c_1 hx)
  refine w_aload_n (n := 7) O dX7_puts_6 rfl rfl rfl ?_
  refine w_getf (n := 10) O 0 dX7_puts_7 (by omega) h49 rfl (by decide) uX7 uf_X7_7 rfl rfl ?_
  refine w_iload_n (n := 11) O dX7_puts_10 rfl rfl rfl ?_
  refine w_ialdQ (n := 12) O dX7_puts_11 hW.2.1 (by omega) h50 (by omega) (by decide) rfl ?_
  refine w_iload (n := 14) O dX7_puts_12 rfl rfl ?_
  refine w_iadd (n := 15) O dX7_puts_14 rfl ?_
  refine w_istore (n := 17) (lv' := [(5, .int (((pgI s i) + (nI (6))))), (0, .ref (gb_ad G 49)), (1, .int (x)), (2, .int (nI (i))), (3, .int (nI (w))), (4, .int (nI 6))]) O dX7_puts_15 (by decide) rfl rfl ?_
  refine w_aload_n (n := 18) O dX7_puts_17 rfl rfl rfl ?_
  refine w_getf (n := 21) O 0 dX7_puts_18 (by omega) h49 rfl (by decide) uX7 uf_X7_7 rfl rfl ?_
  refine w_iload_n (n := 22) O dX7_puts_21 rfl rfl rfl ?_
  refine w_iload_n (n := 23) O dX7_puts_22 rfl rfl rfl ?_
  refine w_iload (n := 25) O dX7_puts_23 rfl rfl ?_
  refine w_isub (n := 26) O dX7_puts_25 rfl ?_
  refine w_iastP (n := 27) (v := w) O dX7_puts_26 hW.2.1 (by omega) h50 (by omega) (by decide) (pgI_qv (by omega)) rfl ?_
  refine w_iload (n := 29) O dX7_puts_27 rfl rfl ?_
  refine w_iret O dX7_puts_29 ?_
  have e : (((pgI s i) + (nI (6)))) = nI (s i) := by rw [pgI_q h24, Int32.sub_add_cancel]
  rw [e]
  exact hQ _ (va_up_self _ _ _) (sm.rf.up (by omega) (by omega))
set_option maxRecDepth 100000 in
set_option maxHeartbeats 4000000 in
theorem f_X7_sorrowsF {G : gb_G} (hW : gW G) {Q : Option Value → gb_M → Prop} {mM : gb_M} {g1 v1 : Int32} (hv1 : wIn v1 (nI 0) (nI 1) = false)  (hQ : Q (some (.int (-1))) mM) : Fn G 1 yX7_sorrows cX7_sorrows 4 (some .int) [.ref (gb_ad G 49), .int (g1), .int (v1)] mM Q := by
  have hN := hW.2.2.1
  refine Fn.of hW.1 [(0, .ref (gb_ad G 49)), (1, .int (g1)), (2, .int (v1))] (by decide) (Nat.le_of_ble_eq_true rfl) rfl ?_
  intro X O
  refine w_iload_n (n := 1) O dX7_sorrows_0 rfl rfl rfl ?_
  refine w_i2l (n := 2) O dX7_sorrows_1 rfl ?_
  refine w_lconst (n := 3) O dX7_sorrows_2 (v := lN 0) (by decide) rfl ?_
  refine w_lconst (n := 4) O dX7_sorrows_3 (v := lN 1) (by decide) rfl ?_
  refine w_cS (n := 7) (ro := some (.int (bI (wIn (v1) (nI 0) (nI 1))))) (R := fun mM' => mM = mM') (st := []) (st1 := [.int (bI (wIn (v1) (nI 0) (nI 1)))]) (As := [.long ((v1).toInt64), .long (lN 0), .long (lN 1)]) O dX7_sorrows_4 ul_X7_50 um_X7_in (f_X7_in (x := (v1)) (y := (nI 0)) (z := (nI 1)) hW rfl (nI_l (by decide)).symm (nI_l (by decide)).symm ⟨rfl, rfl⟩) rfl rfl rfl (by decide) (Nat.le_of_ble_eq_true rfl) rfl (fun mhM_1 hM_1 => ?_)
  subst hM_1
  refine w_if_neB (n := 10) (tgt := 12) O dX7_sorrows_7 (by decide) rfl (fun c_2 => absurd c_2 (by rw [hv1]; decide)) (fun c_2 => ?_)
  refine w_iconst (n := 11) O dX7_sorrows_10 (v := (-1)) (by decide) rfl ?_
  refine w_iret O dX7_sorrows_11 ?_
  exact hQ
set_option maxRecDepth 100000 in
set_option maxHeartbeats 4000000 in
theorem f_X7_sorrowsT {G : gb_G} (hW : gW G) {Q : Option Value → gb_M → Prop} {mM : gb_M} {s : Nat → Nat} {T : Tw} {lo li : Nat} {to : Option Nat} {tm : Nat} (hV : isV G mM s T lo li to tm) (ok : okT T) {j q : Nat} (hj : j < T.2.2.2.1) (hq : q ≤ 1) (hv1 : wIn (nI q) (nI 0) (nI 1) = true)  (hQ : ∀ M', M' 50 = IA G 150 (pgI (upN s 20 (sbU (s 20) j q))) → sm mM M' 50 50 → Q (some (.int (nI (T.1 (j * 6 + 4))))) M') : Fn G 1 yX7_sorrows cX7_sorrows 4 (some .int) [.ref (gb_ad G 49), .int (nI (j)), .int (nI (q))] mM Q := by
  obtain ⟨h50, hpg, x3, x4, x5, x6, x7, x9, x10, x11, x12, x13, x14, x15, x16, x24, x26, x31, h49⟩ := hV
  have hV : isV G mM s T lo li to tm := ⟨h50, hpg, x3, x4, x5, x6, x7, x9, x10, x11, x12, x13, x14, x15, x16, x24, x26, x31, h49⟩
  have hn4 := ok.1
  have hN := hW.2.2.1
  refine Fn.of hW.1 [(0, .ref (gb_ad G 49)), (1, .int (nI (j))), (2, .int (nI (q)))] (by decide) (Nat.le_of_ble_eq_true rfl) rfl ?_
  intro X O
  have hb16 := pg_b16 hpg hn4
  refine w_iload_n (n := 1) O dX7_sorrows_0 rfl rfl rfl ?_
  refine w_i2l (n := 2) O dX7_sorrows_1 rfl ?_
  refine w_lconst (n := 3) O dX7_sorrows_2 (v := lN 0) (by decide) rfl ?_
  refine w_lconst (n := 4) O dX7_sorrows_3 (v := lN 1) (by decide) rfl ?_
  refine w_cS (n := 7) (ro := some (.int (bI (wIn (nI (q)) (nI 0) (nI 1))))) (R := fun mM' => mM = mM') (st := []) (st1 := [.int (bI (wIn (nI (q)) (nI 0) (nI 1)))]) (As := [.long ((nI (q)).toInt64), .long (lN 0), .long (lN 1)]) O dX7_sorrows_4 ul_X7_50 um_X7_in (f_X7_in (x := (nI (q))) (y := (nI 0)) (z := (nI 1)) hW rfl (nI_l (by decide)).symm (nI_l (by decide)).symm ⟨rfl, rfl⟩) rfl rfl rfl (by decide) (Nat.le_of_ble_eq_true rfl) rfl (fun mhM_1 hM_1 => ?_)
  subst hM_1
  refine w_if_neB (n := 10) (tgt := 12) O dX7_sorrows_7 (by decide) rfl (fun c_2 => ?_) (fun c_2 => absurd c_2 (by rw [show wIn (nI (q)) (nI 0) (nI 1) = true from hv1]; decide))
  refine w_aload_n (n := 13) O dX7_sorrows_12 rfl rfl rfl ?_
  refine w_getf (n := 16) O 0 dX7_sorrows_13 (by omega) h49 rfl (by decide) uX7 uf_X7_7 rfl rfl ?_
  refine w_bipush (n := 18) O dX7_sorrows_16 (v := (nI 20)) (by decide) rfl ?_
  refine w_ialdP (n := 19) (v := s 20) O dX7_sorrows_18 hW.2.1 (by omega) h50 (by omega) (by decide) (by omega) rfl rfl ?_
  refine w_iload_n (n := 20) O dX7_sorrows_19 rfl rfl rfl ?_
  refine w_ishr (n := 21) O dX7_sorrows_20 rfl ?_
  refine w_iconst (n := 22) O dX7_sorrows_21 (v := (nI 1)) (by decide) rfl ?_
  refine w_iand (n := 23) O dX7_sorrows_22 rfl ?_
  have hbt : (s 20 / 2 ^ j % 2 = 1) ↔ 0 < T.1 (j * 6 + 4) := by have := pg_hs hpg hn4 (show j < T.2.2.2.1 by omega); unfold hasB at this; simpa using this
  have hk1 := ok.2.1 j (by omega)
  refine w_top (nI (T.1 (j * 6 + 4))) (by rw [nI_shr (by omega) (by omega), nI_and1 (by have := sh_le (s 20) j; omega), show s 20 / 2 ^ j % 2 = T.1 (j * 6 + 4) by omega]) ?_
  refine w_istore_n (n := 24) (lv' := [(3, .int (nI (T.1 (j * 6 + 4)))), (0, .ref (gb_ad G 49)), (1, .int (nI (j))), (2, .int (nI (q)))]) O dX7_sorrows_23 rfl (by decide) rfl rfl ?_
  refine w_aload_n (n := 25) O dX7_sorrows_24 rfl rfl rfl ?_
  refine w_getf (n := 28) O 0 dX7_sorrows_25 (by omega) h49 rfl (by decide) uX7 uf_X7_7 rfl rfl ?_
  refine w_bipush (n := 30) O dX7_sorrows_28 (v := (nI 20)) (by decide) rfl ?_
  refine w_aload_n (n := 31) O dX7_sorrows_30 rfl rfl rfl ?_
  refine w_getf (n := 34) O 0 dX7_sorrows_31 (by omega) h49 rfl (by decide) uX7 uf_X7_7 rfl rfl ?_
  refine w_bipush (n := 36) O dX7_sorrows_34 (v := (nI 20)) (by decide) rfl ?_
  refine w_ialdP (n := 37) (v := s 20) O dX7_sorrows_36 hW.2.1 (by omega) h50 (by omega) (by decide) (by omega) rfl rfl ?_
  refine w_iconst (n := 38) O dX7_sorrows_37 (v := (nI 1)) (by decide) rfl ?_
  refine w_iload_n (n := 39) O dX7_sorrows_38 rfl rfl rfl ?_
  refine w_ishl (n := 40) O dX7_sorrows_39 rfl ?_
  refine w_iconst (n := 41) O dX7_sorrows_40 (v := (-1)) (by decide) rfl ?_
  refine w_ixor (n := 42) O dX7_sorrows_41 rfl ?_
  refine w_iand (n := 43) O dX7_sorrows_42 rfl ?_
  refine w_iload_n (n := 44) O dX7_sorrows_43 rfl rfl rfl ?_
  refine w_iload_n (n := 45) O dX7_sorrows_44 rfl rfl rfl ?_
  refine w_ishl (n := 46) O dX7_sorrows_45 rfl ?_
  refine w_ior (n := 47) O dX7_sorrows_46 rfl ?_
  refine w_top (nI (sbU (s 20) j q)) (sbU_I _ (pg_b16 hpg hn4) _ (by omega) _ (by omega)) ?_
  refine w_iastP (n := 48) (v := sbU (s 20) j q) O dX7_sorrows_47 hW.2.1 (by omega) h50 (by omega) (by decide) (pgI_nv (by omega)) rfl ?_
  refine w_iload_n (n := 49) O dX7_sorrows_48 rfl rfl rfl ?_
  refine w_iret O dX7_sorrows_49 ?_
  exact hQ _ (va_up_self _ _ _) (sm.rf.up (by omega) (by omega))
set_option maxRecDepth 100000 in
set_option maxHeartbeats 4000000 in
theorem f_X7_strikes {G : gb_G} (hW : gW G) {Q : Option Value → gb_M → Prop} {mM : gb_M} {s : Nat → Nat} {T : Tw} {tm : Nat} (hV : isV G mM s T 0 0 none tm) (ok : okT T) (htm : tm ≤ 40) (hsk : T.2.2.2.2.2.2 < 2000)  (hQ : ∀ M' s', M' 50 = IA G 150 (pgI s') → pg0 s' (tStrike T) → (∀ k, 30 ≤ k → s' k = s k) → sm mM M' 50 50 → Q none M') : Fn G 6 yX7_strikes cX7_strikes 3 none [.ref (gb_ad G 49)] mM Q := by
  obtain ⟨h50, hpg, x3, x4, x5, x6, x7, x9, x10, x11, x12, x13, x14, x15, x16, x24, x26, x31, h49⟩ := hV
  have hV : isV G mM s T 0 0 none tm := ⟨h50, hpg, x3, x4, x5, x6, x7, x9, x10, x11, x12, x13, x14, x15, x16, x24, x26, x31, h49⟩
  have hn4 := ok.1
  have hN := hW.2.2.1
  refine Fn.of hW.1 [(0, .ref (gb_ad G 49))] (by decide) (Nat.le_of_ble_eq_true rfl) rfl ?_
  intro X O
  have hwb := bWt_le (okT_sk ok hsk)
  refine w_aload_n (n := 1) O dX7_strikes_0 rfl rfl rfl ?_
  refine w_getf (n := 4) O 0 dX7_strikes_1 (by omega) h49 rfl (by decide) uX7 uf_X7_7 rfl rfl ?_
  refine w_bipush (n := 6) O dX7_strikes_4 (v := (nI 26)) (by decide) rfl ?_
  refine w_dup2 (n := 7) O dX7_strikes_6 rfl rfl rfl ?_
  refine w_ialdP (n := 8) (v := T.2.2.2.2.2.2) O dX7_strikes_7 hW.2.1 (by omega) h50 (by omega) (by decide) (by omega) hpg.2.2.2.2.2 rfl ?_
  refine w_iconst (n := 9) O dX7_strikes_8 (v := (nI 1)) (by decide) rfl ?_
  refine w_iaddN (n := 10) O dX7_strikes_9 rfl ?_
  refine w_iastP (n := 11) (v := (T.2.2.2.2.2.2 + 1)) O dX7_strikes_10 hW.2.1 (by omega) h50 (by omega) (by decide) (pgI_nv (by omega)) rfl ?_
  refine w_aload_n (n := 12) O dX7_strikes_11 rfl rfl rfl ?_
  refine w_getf (n := 15) O 0 dX7_strikes_12 (by omega) ((va_up_ne _ _ (by decide)).trans h49) rfl (by decide) uX7 uf_X7_7 rfl rfl ?_
  refine w_bipush (n := 17) O dX7_strikes_15 (v := (nI 26)) (by decide) rfl ?_
  refine w_ialdP (n := 18) (v := (T.2.2.2.2.2.2 + 1)) O dX7_strikes_17 hW.2.1 (by omega) (va_up_self _ _ _) (by omega) (by decide) (by omega) (pg_st hpg).2.2.2.2.2 rfl ?_
  refine w_iconst (n := 19) O dX7_strikes_18 (v := (nI 5)) (by decide) rfl ?_
  refine w_iremN (n := 20) O dX7_strikes_19 (by omega) (by omega) (by omega) rfl ?_
  refine w_if_neN (n := 23) (tgt := 77) O dX7_strikes_20 (by omega) (by decide) rfl (fun c_1 => ?_) (fun c_1 => ?_)
  · skip
    refine w_vret O dX7_strikes_77 ?_
    have e : tStrike T = (T.1, T.2.1, T.2.2.1, T.2.2.2.1, T.2.2.2.2.1, T.2.2.2.2.2.1, (T.2.2.2.2.2.2 + 1)) := by unfold tStrike; rw [if_neg (fun z => by have q2 := z.1; have q3 := z.2; have q4 : bWt (T.1, T.2.1, T.2.2.1, T.2.2.2.1, T.2.2.2.2.1, T.2.2.2.2.2.1, (T.2.2.2.2.2.2 + 1)) = bWt T := rfl; omega)]
    exact hQ _ _ (va_up_self _ _ _) (by rw [e]; exact (pg_st hpg)) (fun k hk => ((upN_ne _ _ (by omega)).trans rfl)) (sm.rf.up (by omega) (by omega))
  · skip
    refine w_aload_n (n := 24) O dX7_strikes_23 rfl rfl rfl ?_
    refine w_cV (n := 27) (ro := some (.int (nI (bWt ((T.1, T.2.1, T.2.2.1, T.2.2.2.1, T.2.2.2.2.1, T.2.2.2.2.2.1, (T.2.2.2.2.2.2 + 1))))))) (R := fun mM' => (va_up mM (50) (IA G 150 (pgI (upN s 26 (T.2.2.2.2.2.2 + 1))))) = mM') (st := []) (st1 := [.int (nI (bWt ((T.1, T.2.1, T.2.2.1, T.2.2.2.1, T.2.2.2.2.1, T.2.2.2.2.2.1, (T.2.2.2.2.2.2 + 1)))))]) (As := []) (b := 49) O dX7_strikes_24 ul_X7_178 um_X7_weight (f_X7_weight0 (s := upN s 26 (T.2.2.2.2.2.2 + 1)) (T := (T.1, T.2.1, T.2.2.1, T.2.2.2.1, T.2.2.2.2.1, T.2.2.2.2.2.1, (T.2.2.2.2.2.2 + 1))) (tm := tm) hW ⟨(va_up_self _ _ _), (pg_st hpg), _, _, _, _, _, _, _, _, _, _, _, _, _, _, _, _, ((va_up_ne _ _ (by decide)).trans h49)⟩ (okT_sk ok hsk) htm  ⟨rfl, rfl⟩) rfl (by omega) ((va_up_ne _ _ (by decide)).trans h49) rfl rfl rfl rfl (by decide) (Nat.le_of_ble_eq_true rfl) rfl (fun mhM_2 hM_2 => ?_)
    subst hM_2
    refine w_if_leN (n := 30) (tgt := 77) O dX7_strikes_27 (by omega) (by decide) rfl (fun c_3 => ?_) (fun c_3 => ?_)
    · skip
      refine w_vret O dX7_strikes_77 ?_
      have e : tStrike T = (T.1, T.2.1, T.2.2.1, T.2.2.2.1, T.2.2.2.2.1, T.2.2.2.2.2.1, (T.2.2.2.2.2.2 + 1)) := by unfold tStrike; rw [if_neg (fun z => by have q2 := z.1; have q3 := z.2; have q4 : bWt (T.1, T.2.1, T.2.2.1, T.2.2.2.1, T.2.2.2.2.1, T.2.2.2.2.2.1, (T.2.2.2.2.2.2 + 1)) = bWt T := rfl; omega)]
      exact hQ _ _ (va_up_self _ _ _) (by rw [e]; exact (pg_st hpg)) (fun k hk => ((upN_ne _ _ (by omega)).trans rfl)) (sm.rf.up (by omega) (by omega))
    · skip
      refine w_iconst (n := 31) O dX7_strikes_30 (v := (nI 0)) (by decide) rfl ?_
      refine w_istore_n (n := 32) (lv' := [(1, .int (nI 0)), (0, .ref (gb_ad G 49))]) O dX7_strikes_31 rfl (by decide) rfl rfl ?_
      refine w_iconst (n := 33) O dX7_strikes_32 (v := (nI 1)) (by decide) rfl ?_
      refine w_istore_n (n := 34) (lv' := [(2, .int (nI 1)), (1, .int (nI 0)), (0, .ref (gb_ad G 49))]) O dX7_strikes_33 rfl (by decide) rfl rfl ?_
      have LM : ∀ (k : Nat) (i mo : Nat), 3 - i = k → 1 ≤ i → i ≤ 3 → mo = sMx (bAm (T.1, T.2.1, T.2.2.1, T.2.2.2.1, T.2.2.2.2.1, T.2.2.2.2.2.1, (T.2.2.2.2.2.2 + 1))) (i - 1) → Wm G X 3 Q 34 [(0, .ref (gb_ad G 49)), (1, .int (nI (mo))), (2, .int (nI (i)))] [] (va_up mM (50) (IA G 150 (pgI (upN s 26 (T.2.2.2.2.2.2 + 1))))) := by
        intro k
        induction k using Nat.strongRecOn with
        | ind k ih_LM =>
          intro i mo hk hi1 hi3 hmo
          have hml := sMx_le (bAm (T.1, T.2.1, T.2.2.1, T.2.2.2.1, T.2.2.2.2.1, T.2.2.2.2.2.1, (T.2.2.2.2.2.2 + 1))) (i - 1)
          have hbi := bAm_le (okT_sk ok hsk) i
          have hbm := bAm_le (okT_sk ok hsk) mo
          refine w_iload_n (n := 35) O dX7_strikes_34 rfl rfl rfl ?_
          refine w_iconst (n := 36) O dX7_strikes_35 (v := (nI 3)) (by decide) rfl ?_
          refine w_icmp_geN (n := 39) (tgt := 64) O dX7_strikes_36 (by omega) (by omega) (by decide) rfl (fun c_4 => ?_) (fun c_4 => ?_)
          · skip
            have ei : i = 3 := by omega
            subst ei
            have em : mo = sMx (bAm (T.1, T.2.1, T.2.2.1, T.2.2.2.1, T.2.2.2.2.1, T.2.2.2.2.2.1, (T.2.2.2.2.2.2 + 1))) 2 := hmo
            have hwm := (ok.2.2.1 mo (by omega)).2
            refine w_aload_n (n := 65) O dX7_strikes_64 rfl rfl rfl ?_
            refine w_getf (n := 68) O 0 dX7_strikes_65 (by omega) ((va_up_ne _ _ (by decide)).trans h49) rfl (by decide) uX7 uf_X7_7 rfl rfl ?_
            refine w_bipush (n := 70) O dX7_strikes_68 (v := (nI 27)) (by decide) rfl ?_
            refine w_iload_n (n := 71) O dX7_strikes_70 rfl rfl rfl ?_
            refine w_iaddN (n := 72) O dX7_strikes_71 rfl ?_
            refine w_dup2 (n := 73) O dX7_strikes_72 rfl rfl rfl ?_
            refine w_ialdP (n := 74) (v := T.2.2.1 mo) O dX7_strikes_73 hW.2.1 (by omega) (va_up_self _ _ _) (by omega) (by decide) (by omega) ((pg_st hpg).2.2.1 mo (by omega)).2 rfl ?_
            refine w_iconst (n := 75) O dX7_strikes_74 (v := (nI 1)) (by decide) rfl ?_
            refine w_iaddN (n := 76) O dX7_strikes_75 rfl ?_
            refine w_iastP (n := 77) (v := ((T.2.2.1 mo) + 1)) O dX7_strikes_76 hW.2.1 (by omega) (va_up_self _ _ _) (by omega) (by decide) (pgI_nv (by omega)) rfl ?_
            subst em
            refine w_vret O dX7_strikes_77 ?_
            have e : tStrike T = (T.1, T.2.1, upN T.2.2.1 (sMx (bAm T) 2) (T.2.2.1 (sMx (bAm T) 2) + 1), T.2.2.2.1, T.2.2.2.2.1, T.2.2.2.2.2.1, T.2.2.2.2.2.2 + 1) := by unfold tStrike; rw [if_pos ⟨by omega, by have q3 : bWt (T.1, T.2.1, T.2.2.1, T.2.2.2.1, T.2.2.2.2.1, T.2.2.2.2.2.1, (T.2.2.2.2.2.2 + 1)) = bWt T := rfl; omega⟩]
            exact hQ _ _ (va_up_self _ _ _) (by rw [e]; exact (pg_wo (pg_st hpg) (by omega))) (fun k hk => ((upN_ne _ _ (by omega)).trans ((upN_ne _ _ (by omega)).trans rfl))) ((sm.rf.up (by omega) (by omega)).up (by omega) (by omega))
          · skip
            refine w_aload_n (n := 40) O dX7_strikes_39 rfl rfl rfl ?_
            refine w_iload_n (n := 41) O dX7_strikes_40 rfl rfl rfl ?_
            refine w_cV (n := 44) (ro := some (.int (nI (bAm ((T.1, T.2.1, T.2.2.1, T.2.2.2.1, T.2.2.2.2.1, T.2.2.2.2.2.1, (T.2.2.2.2.2.2 + 1))) i)))) (R := fun mM' => (va_up mM (50) (IA G 150 (pgI (upN s 26 (T.2.2.2.2.2.2 + 1))))) = mM') (st := []) (st1 := [.int (nI (bAm ((T.1, T.2.1, T.2.2.1, T.2.2.2.1, T.2.2.2.2.1, T.2.2.2.2.2.1, (T.2.2.2.2.2.2 + 1))) i))]) (As := [.int (nI (i))]) (b := 49) O dX7_strikes_41 ul_X7_175 um_X7_inBell (f_X7_inBell0 (s := upN s 26 (T.2.2.2.2.2.2 + 1)) (T := (T.1, T.2.1, T.2.2.1, T.2.2.2.1, T.2.2.2.2.1, T.2.2.2.2.2.1, (T.2.2.2.2.2.2 + 1))) (tm := tm) hW ⟨(va_up_self _ _ _), (pg_st hpg), _, _, _, _, _, _, _, _, _, _, _, _, _, _, _, _, ((va_up_ne _ _ (by decide)).trans h49)⟩ (okT_sk ok hsk) htm (by omega) ⟨rfl, rfl⟩) rfl (by omega) ((va_up_ne _ _ (by decide)).trans h49) rfl rfl rfl rfl (by decide) (Nat.le_of_ble_eq_true rfl) rfl (fun mhM_5 hM_5 => ?_)
            subst hM_5
            refine w_aload_n (n := 45) O dX7_strikes_44 rfl rfl rfl ?_
            refine w_iload_n (n := 46) O dX7_strikes_45 rfl rfl rfl ?_
            refine w_cV (n := 49) (ro := some (.int (nI (bAm ((T.1, T.2.1, T.2.2.1, T.2.2.2.1, T.2.2.2.2.1, T.2.2.2.2.2.1, (T.2.2.2.2.2.2 + 1))) mo)))) (R := fun mM' => (va_up mM (50) (IA G 150 (pgI (upN s 26 (T.2.2.2.2.2.2 + 1))))) = mM') (st := [.int (nI (bAm ((T.1, T.2.1, T.2.2.1, T.2.2.2.1, T.2.2.2.2.1, T.2.2.2.2.2.1, (T.2.2.2.2.2.2 + 1))) i))]) (st1 := [.int (nI (bAm ((T.1, T.2.1, T.2.2.1, T.2.2.2.1, T.2.2.2.2.1, T.2.2.2.2.2.1, (T.2.2.2.2.2.2 + 1))) mo)), .int (nI (bAm ((T.1, T.2.1, T.2.2.1, T.2.2.2.1, T.2.2.2.2.1, T.2.2.2.2.2.1, (T.2.2.2.2.2.2 + 1))) i))]) (As := [.int (nI (mo))]) (b := 49) O dX7_strikes_46 ul_X7_175 um_X7_inBell (f_X7_inBell0 (s := upN s 26 (T.2.2.2.2.2.2 + 1)) (T := (T.1, T.2.1, T.2.2.1, T.2.2.2.1, T.2.2.2.2.1, T.2.2.2.2.2.1, (T.2.2.2.2.2.2 + 1))) (tm := tm) hW ⟨(va_up_self _ _ _), (pg_st hpg), _, _, _, _, _, _, _, _, _, _, _, _, _, _, _, _, ((va_up_ne _ _ (by decide)).trans h49)⟩ (okT_sk ok hsk) htm (by omega) ⟨rfl, rfl⟩) rfl (by omega) ((va_up_ne _ _ (by decide)).trans h49) rfl rfl rfl rfl (by decide) (Nat.le_of_ble_eq_true rfl) rfl (fun mhM_6 hM_6 => ?_)
            subst hM_6
            refine w_icmp_leN (n := 52) (tgt := 56) O dX7_strikes_49 (by omega) (by omega) (by decide) rfl (fun c_7 => ?_) (fun c_7 => ?_)
            · skip
              refine w_iload_n (n := 57) O dX7_strikes_56 rfl rfl rfl ?_
              refine w_istore_n (n := 58) (lv' := [(1, .int (nI (mo))), (0, .ref (gb_ad G 49)), (2, .int (nI (i)))]) O dX7_strikes_57 rfl (by decide) rfl rfl ?_
              refine w_iincN (n := 61) (lv' := [(2, .int (nI (i + 1))), (1, .int (nI (mo))), (0, .ref (gb_ad G 49))]) O dX7_strikes_58 rfl (by decide) rfl rfl ?_
              refine w_goto (tgt := 34) O dX7_strikes_61 (by decide) ?_
              refine w_lv (lv2 := [(0, .ref (gb_ad G 49)), (1, .int (nI (mo))), (2, .int (nI (i + 1)))]) [2, 1, 0] rfl ?_
              exact ih_LM _ (by omega) (i + 1) (mo) rfl (by omega) (by omega) (by rw [show i + 1 - 1 = (i - 1) + 1 by omega]; simp only [sMx]; rw [← hmo, show i - 1 + 1 = i by omega]; first | rw [if_pos (by omega)] | rw [if_neg (by omega)])
            · skip
              refine w_iload_n (n := 53) O dX7_strikes_52 rfl rfl rfl ?_
              refine w_goto (tgt := 57) O dX7_strikes_53 (by decide) ?_
              refine w_istore_n (n := 58) (lv' := [(1, .int (nI (i))), (0, .ref (gb_ad G 49)), (2, .int (nI (i)))]) O dX7_strikes_57 rfl (by decide) rfl rfl ?_
              refine w_iincN (n := 61) (lv' := [(2, .int (nI (i + 1))), (1, .int (nI (i))), (0, .ref (gb_ad G 49))]) O dX7_strikes_58 rfl (by decide) rfl rfl ?_
              refine w_goto (tgt := 34) O dX7_strikes_61 (by decide) ?_
              refine w_lv (lv2 := [(0, .ref (gb_ad G 49)), (1, .int (nI (i))), (2, .int (nI (i + 1)))]) [2, 1, 0] rfl ?_
              exact ih_LM _ (by omega) (i + 1) (i) rfl (by omega) (by omega) (by rw [show i + 1 - 1 = (i - 1) + 1 by omega]; simp only [sMx]; rw [← hmo, show i - 1 + 1 = i by omega]; first | rw [if_pos (by omega)] | rw [if_neg (by omega)])
      refine w_lv (lv2 := [(0, .ref (gb_ad G 49)), (1, .int (nI 0)), (2, .int (nI 1))]) [2, 1, 0] rfl ?_
      exact LM _ 1 0 rfl (by omega) (by omega) rfl
set_option maxRecDepth 100000 in
set_option maxHeartbeats 4000000 in
theorem f_X7_copies {G : gb_G} (hW : gW G) {Q : Option Value → gb_M → Prop} {mM : gb_M} {s : Nat → Nat} {T : Tw} {lo li : Nat} {to : Option Nat} {tm : Nat} (hV : isV G mM s T lo li to tm) {o q : Nat} (ho : o ≤ 120) (hq : q ≤ 120) (ho3 : o % 30 = 0) (hq3 : q % 30 = 0) (hoq : o + 30 ≤ q ∨ q + 30 ≤ o)  (hQ : ∀ M', M' 50 = IA G 150 (pgI (cpS s o q)) → sm mM M' 50 50 → Q none M') : Fn G 0 yX7_copies cX7_copies 4 none [.ref (gb_ad G 49), .int (nI (o)), .int (nI (q))] mM Q := by
  obtain ⟨h50, hpg, x3, x4, x5, x6, x7, x9, x10, x11, x12, x13, x14, x15, x16, x24, x26, x31, h49⟩ := hV
  have hV : isV G mM s T lo li to tm := ⟨h50, hpg, x3, x4, x5, x6, x7, x9, x10, x11, x12, x13, x14, x15, x16, x24, x26, x31, h49⟩
  have hN := hW.2.2.1
  refine Fn.of hW.1 [(0, .ref (gb_ad G 49)), (1, .int (nI (o))), (2, .int (nI (q)))] (by decide) (Nat.le_of_ble_eq_true rfl) rfl ?_
  intro X O
  refine w_iconst (n := 1) O dX7_copies_0 (v := (nI 0)) (by decide) rfl ?_
  refine w_istore_n (n := 2) (lv' := [(3, .int (nI 0)), (0, .ref (gb_ad G 49)), (1, .int (nI (o))), (2, .int (nI (q)))]) O dX7_copies_1 rfl (by decide) rfl rfl ?_
  have LC : ∀ (k : Nat) (kc : Nat) (s1 : Nat → Nat) (m1 : gb_M), 30 - kc = k → kc ≤ 30 → m1 50 = IA G 150 (pgI s1) → (∀ j, s1 j = if q ≤ j ∧ j < q + kc then s (j - q + o) else s j) → sm mM m1 50 50 → Wm G X 4 Q 2 [(0, .ref (gb_ad G 49)), (1, .int (nI (o))), (2, .int (nI (q))), (3, .int (nI (kc)))] [] m1 := by
    intro k
    induction k using Nat.strongRecOn with
    | ind k ih_LC =>
      intro kc s1 m1 hk hk3 h51 hcp hs1
      refine w_iload_n (n := 3) O dX7_copies_2 rfl rfl rfl ?_
      refine w_bipush (n := 5) O dX7_copies_3 (v := (nI 30)) (by decide) rfl ?_
      refine w_icmp_geN (n := 8) (tgt := 30) O dX7_copies_5 (by omega) (by omega) (by decide) rfl (fun c_1 => ?_) (fun c_1 => ?_)
      · skip
        refine w_vret O dX7_copies_30 ?_
        have ek : kc = 30 := by omega
        subst ek
        have es : s1 = cpS s o q := funext hcp
        exact hQ _ (by rw [← es]; exact h51) (sm.rf.tr (hs1.mono (by omega) (by omega)))
      · skip
        refine w_aload_n (n := 9) O dX7_copies_8 rfl rfl rfl ?_
        refine w_getf (n := 12) O 0 dX7_copies_9 (by omega) ((hs1 (49) (by omega)).trans h49) rfl (by decide) uX7 uf_X7_7 rfl rfl ?_
        refine w_iload_n (n := 13) O dX7_copies_12 rfl rfl rfl ?_
        refine w_iload_n (n := 14) O dX7_copies_13 rfl rfl rfl ?_
        refine w_iaddN (n := 15) O dX7_copies_14 rfl ?_
        refine w_aload_n (n := 16) O dX7_copies_15 rfl rfl rfl ?_
        refine w_getf (n := 19) O 0 dX7_copies_16 (by omega) ((hs1 (49) (by omega)).trans h49) rfl (by decide) uX7 uf_X7_7 rfl rfl ?_
        refine w_iload_n (n := 20) O dX7_copies_19 rfl rfl rfl ?_
        refine w_iload_n (n := 21) O dX7_copies_20 rfl rfl rfl ?_
        refine w_iaddN (n := 22) O dX7_copies_21 rfl ?_
        refine w_ialdQ (n := 23) O dX7_copies_22 hW.2.1 (by omega) h51 (by omega) (by decide) rfl ?_
        refine w_iastP (n := 24) (v := s1 (o + kc)) O dX7_copies_23 hW.2.1 (by omega) h51 (by omega) (by decide) (pgI_cv (by omega)) rfl ?_
        refine w_iincN (n := 27) (lv' := [(3, .int (nI (kc + 1))), (0, .ref (gb_ad G 49)), (1, .int (nI (o))), (2, .int (nI (q)))]) O dX7_copies_24 rfl (by decide) rfl rfl ?_
        refine w_goto (tgt := 2) O dX7_copies_27 (by decide) ?_
        refine w_lv (lv2 := [(0, .ref (gb_ad G 49)), (1, .int (nI (o))), (2, .int (nI (q))), (3, .int (nI (kc + 1)))]) [1, 2, 3, 0] rfl ?_
        exact ih_LC _ (by omega) (kc + 1) _ _ rfl (by omega) (va_up_self _ _ _) (fun j => by simp only [upN]; by_cases e : j = q + kc; (rw [if_pos e, if_pos (by omega), hcp, if_neg (by omega), show j - q + o = o + kc by omega]); (rw [if_neg e, hcp]; by_cases e2 : q ≤ j ∧ j < q + kc; (rw [if_pos e2, if_pos (by omega)]); (rw [if_neg e2, if_neg (by omega)]))) ((sm.rf.tr (hs1.mono (by omega) (by omega))).up (by omega) (by omega))
  refine w_lv (lv2 := [(0, .ref (gb_ad G 49)), (1, .int (nI (o))), (2, .int (nI (q))), (3, .int (nI 0))]) [1, 2, 3, 0] rfl ?_
  exact LC _ 0 s mM rfl (by omega) h50 (fun j => (if_neg (by omega)).symm) sm.rf
theorem sMost_val (f : Nat → Nat) : ∀ n, (sMost f n).2 = match (sMost f n).1 with
    | none => 0
    | some q => f q
  | 0 => rfl
  | n + 1 => by
    simp only [sMost]
    by_cases h : (sMost f n).2 < f n
    · rw [if_pos h]
    · rw [if_neg h]
      exact sMost_val f n
set_option maxRecDepth 100000 in
set_option maxHeartbeats 4000000 in
theorem f_X7_mostHeld {G : gb_G} (hW : gW G) {Q : Option Value → gb_M → Prop} {mM : gb_M} {s : Nat → Nat} {T : Tw} {lo li : Nat} {to : Option Nat} {tm : Nat} (hV : isV G mM s T lo li to tm) (ok : okT T)  (hQ : Q (some (.int (oI (hMost T)))) mM) : Fn G 0 yX7_mostHeld cX7_mostHeld 3 (some .int) [.ref (gb_ad G 49)] mM Q := by
  obtain ⟨h50, hpg, x3, x4, x5, x6, x7, x9, x10, x11, x12, x13, x14, x15, x16, x24, x26, x31, h49⟩ := hV
  have hV : isV G mM s T lo li to tm := ⟨h50, hpg, x3, x4, x5, x6, x7, x9, x10, x11, x12, x13, x14, x15, x16, x24, x26, x31, h49⟩
  have hn4 := ok.1
  have hN := hW.2.2.1
  refine Fn.of hW.1 [(0, .ref (gb_ad G 49))] (by decide) (Nat.le_of_ble_eq_true rfl) rfl ?_
  intro X O
  refine w_bipush (n := 2) O dX7_mostHeld_0 (v := (-4)) (by decide) rfl ?_
  refine w_istore_n (n := 3) (lv' := [(1, .int (-4)), (0, .ref (gb_ad G 49))]) O dX7_mostHeld_2 rfl (by decide) rfl rfl ?_
  refine w_iconst (n := 4) O dX7_mostHeld_3 (v := (nI 0)) (by decide) rfl ?_
  refine w_istore_n (n := 5) (lv' := [(2, .int (nI 0)), (1, .int (-4)), (0, .ref (gb_ad G 49))]) O dX7_mostHeld_4 rfl (by decide) rfl rfl ?_
  have LA : ∀ (k : Nat) (i : Nat) (o : Option Nat), T.2.2.2.1 - i = k → i ≤ T.2.2.2.1 → o = (sMost (fun g => T.1 (g * 6 + 5)) i).1 → Wm G X 3 Q 5 [(0, .ref (gb_ad G 49)), (1, .int (oI o)), (2, .int (nI (i)))] [] mM := by
    intro k
    induction k using Nat.strongRecOn with
    | ind k ih_LA =>
      intro i o hk hi ho
      have hvl := sMost_val (fun g => T.1 (g * 6 + 5)) i
      rw [← ho] at hvl
      refine w_iload_n (n := 6) O dX7_mostHeld_5 rfl rfl rfl ?_
      refine w_aload_n (n := 7) O dX7_mostHeld_6 rfl rfl rfl ?_
      refine w_getf (n := 10) O 1 dX7_mostHeld_7 (by omega) h49 rfl (by decide) uX7 uf_X7_136 rfl rfl ?_
      refine w_icmp_geN (n := 13) (tgt := 56) O dX7_mostHeld_10 (by omega) (by omega) (by decide) rfl (fun c_1 => ?_) (fun c_1 => ?_)
      · skip
        refine w_iload_n (n := 57) O dX7_mostHeld_56 rfl rfl rfl ?_
        refine w_iret O dX7_mostHeld_57 ?_
        have e : hMost T = o := by unfold hMost; rw [show T.2.2.2.1 = i by omega, ho]
        rw [e] at hQ
        exact hQ
      · skip
        have hk1 := ok.2.1 i (by omega)
        refine w_aload_n (n := 14) O dX7_mostHeld_13 rfl rfl rfl ?_
        refine w_getf (n := 17) O 0 dX7_mostHeld_14 (by omega) h49 rfl (by decide) uX7 uf_X7_7 rfl rfl ?_
        refine w_bipush (n := 19) O dX7_mostHeld_17 (v := (nI 16)) (by decide) rfl ?_
        refine w_iload_n (n := 20) O dX7_mostHeld_19 rfl rfl rfl ?_
        refine w_iaddN (n := 21) O dX7_mostHeld_20 rfl ?_
        refine w_ialdP (n := 22) (v := T.1 (i * 6 + 5)) O dX7_mostHeld_21 hW.2.1 (by omega) h50 (by omega) (by decide) (by omega) (hpg.1 i (by omega)).2.2.2.2 rfl ?_
        refine w_iload_n (n := 23) O dX7_mostHeld_22 rfl rfl rfl ?_
        refine w_bipush (n := 25) O dX7_mostHeld_23 (v := (-4)) (by decide) rfl ?_
        refine w_icmp_ne (n := 28) (tgt := 32) O dX7_mostHeld_25 (by decide) rfl (fun c_2 => ?_) (fun c_2 => ?_)
        · skip
          obtain ⟨q, hqo⟩ := oI_some c_2
          have hqi := (sMost_in (ho.symm.trans hqo)).1
          have hk2 := ok.2.1 q (by omega)
          rw [hqo] at hvl
          have hvl : (sMost (fun g => T.1 (g * 6 + 5)) i).2 = T.1 (q * 6 + 5) := hvl
          rw [show oI o = nI q by rw [hqo]; rfl]
          refine w_aload_n (n := 33) O dX7_mostHeld_32 rfl rfl rfl ?_
          refine w_getf (n := 36) O 0 dX7_mostHeld_33 (by omega) h49 rfl (by decide) uX7 uf_X7_7 rfl rfl ?_
          refine w_bipush (n := 38) O dX7_mostHeld_36 (v := (nI 16)) (by decide) rfl ?_
          refine w_iload_n (n := 39) O dX7_mostHeld_38 rfl rfl rfl ?_
          refine w_iaddN (n := 40) O dX7_mostHeld_39 rfl ?_
          refine w_ialdP (n := 41) (v := T.1 (q * 6 + 5)) O dX7_mostHeld_40 hW.2.1 (by omega) h50 (by omega) (by decide) (by omega) (hpg.1 q (by omega)).2.2.2.2 rfl ?_
          refine w_icmp_leN (n := 44) (tgt := 48) O dX7_mostHeld_41 (by omega) (by omega) (by decide) rfl (fun c_3 => ?_) (fun c_3 => ?_)
          · skip
            refine w_iload_n (n := 49) O dX7_mostHeld_48 rfl rfl rfl ?_
            refine w_istore_n (n := 50) (lv' := [(1, .int (nI (q))), (0, .ref (gb_ad G 49)), (2, .int (nI (i)))]) O dX7_mostHeld_49 rfl (by decide) rfl rfl ?_
            refine w_iincN (n := 53) (lv' := [(2, .int (nI (i + 1))), (1, .int (nI (q))), (0, .ref (gb_ad G 49))]) O dX7_mostHeld_50 rfl (by decide) rfl rfl ?_
            refine w_goto (tgt := 5) O dX7_mostHeld_53 (by decide) ?_
            refine w_lv (lv2 := [(0, .ref (gb_ad G 49)), (1, .int (nI (q))), (2, .int (nI (i + 1)))]) [2, 1, 0] rfl ?_
            exact ih_LA _ (by omega) (i + 1) (some q) rfl (by omega) (by simp only [sMost]; rw [hvl]; first | rw [if_pos (by omega)] | (rw [if_neg (by omega)]; first | exact ho | exact hqo.symm.trans ho))
          · skip
            refine w_iload_n (n := 45) O dX7_mostHeld_44 rfl rfl rfl ?_
            refine w_goto (tgt := 49) O dX7_mostHeld_45 (by decide) ?_
            refine w_istore_n (n := 50) (lv' := [(1, .int (nI (i))), (0, .ref (gb_ad G 49)), (2, .int (nI (i)))]) O dX7_mostHeld_49 rfl (by decide) rfl rfl ?_
            refine w_iincN (n := 53) (lv' := [(2, .int (nI (i + 1))), (1, .int (nI (i))), (0, .ref (gb_ad G 49))]) O dX7_mostHeld_50 rfl (by decide) rfl rfl ?_
            refine w_goto (tgt := 5) O dX7_mostHeld_53 (by decide) ?_
            refine w_lv (lv2 := [(0, .ref (gb_ad G 49)), (1, .int (nI (i))), (2, .int (nI (i + 1)))]) [2, 1, 0] rfl ?_
            exact ih_LA _ (by omega) (i + 1) (some i) rfl (by omega) (by simp only [sMost]; rw [hvl]; first | rw [if_pos (by omega)] | (rw [if_neg (by omega)]; first | exact ho | exact hqo.symm.trans ho))
        · skip
          have hnn : o = none := oI_none (fun k hk => by have := (sMost_in (ho.symm.trans hk)).1; omega) c_2
          rw [hnn] at hvl
          have hvl : (sMost (fun g => T.1 (g * 6 + 5)) i).2 = 0 := hvl
          refine w_iconst (n := 29) O dX7_mostHeld_28 (v := (nI 0)) (by decide) rfl ?_
          refine w_goto (tgt := 41) O dX7_mostHeld_29 (by decide) ?_
          refine w_icmp_leN (n := 44) (tgt := 48) O dX7_mostHeld_41 (by omega) (by omega) (by decide) rfl (fun c_4 => ?_) (fun c_4 => ?_)
          · skip
            refine w_iload_n (n := 49) O dX7_mostHeld_48 rfl rfl rfl ?_
            refine w_istore_n (n := 50) (lv' := [(1, .int (oI o)), (0, .ref (gb_ad G 49)), (2, .int (nI (i)))]) O dX7_mostHeld_49 rfl (by decide) rfl rfl ?_
            refine w_iincN (n := 53) (lv' := [(2, .int (nI (i + 1))), (1, .int (oI o)), (0, .ref (gb_ad G 49))]) O dX7_mostHeld_50 rfl (by decide) rfl rfl ?_
            refine w_goto (tgt := 5) O dX7_mostHeld_53 (by decide) ?_
            refine w_lv (lv2 := [(0, .ref (gb_ad G 49)), (1, .int (oI o)), (2, .int (nI (i + 1)))]) [2, 1, 0] rfl ?_
            exact ih_LA _ (by omega) (i + 1) o rfl (by omega) (by simp only [sMost]; rw [hvl]; first | rw [if_pos (by omega)] | (rw [if_neg (by omega)]; first | exact ho | exact hqo.symm.trans ho))
          · skip
            refine w_iload_n (n := 45) O dX7_mostHeld_44 rfl rfl rfl ?_
            refine w_goto (tgt := 49) O dX7_mostHeld_45 (by decide) ?_
            refine w_istore_n (n := 50) (lv' := [(1, .int (nI (i))), (0, .ref (gb_ad G 49)), (2, .int (nI (i)))]) O dX7_mostHeld_49 rfl (by decide) rfl rfl ?_
            refine w_iincN (n := 53) (lv' := [(2, .int (nI (i + 1))), (1, .int (nI (i))), (0, .ref (gb_ad G 49))]) O dX7_mostHeld_50 rfl (by decide) rfl rfl ?_
            refine w_goto (tgt := 5) O dX7_mostHeld_53 (by decide) ?_
            refine w_lv (lv2 := [(0, .ref (gb_ad G 49)), (1, .int (nI (i))), (2, .int (nI (i + 1)))]) [2, 1, 0] rfl ?_
            exact ih_LA _ (by omega) (i + 1) (some i) rfl (by omega) (by simp only [sMost]; rw [hvl]; first | rw [if_pos (by omega)] | (rw [if_neg (by omega)]; first | exact ho | exact hqo.symm.trans ho))
  refine w_lv (lv2 := [(0, .ref (gb_ad G 49)), (1, .int (-4)), (2, .int (nI 0))]) [2, 1, 0] rfl ?_
  exact LA _ 0 none rfl (Nat.zero_le _) rfl
def chS (s : Nat → Nat) (T : Tw) (l h : Nat) : Nat → Nat := upN (upN s (8 + l) (T.1 (h * 6 + 2))) (8 + h) (T.1 (l * 6 + 2))
theorem chS_back {s : Nat → Nat} {T : Tw} {l h : Nat} (hp : pg0 s T) (hl : l < 4) (hh : h < 4) (hlh : ¬ l = h) : chS (chS s T l h) (swapT T l h) l h = s := by
  have a1 := (hp.1 l hl).2.2.1
  have a2 := (hp.1 h hh).2.2.1
  funext k
  simp only [chS, swapT, upN]
  by_cases e1 : k = 8 + h
  · subst e1
    rw [if_pos rfl, if_neg (by omega), if_pos trivial]
    exact a2.symm
  · rw [if_neg e1]
    by_cases e2 : k = 8 + l
    · subst e2
      rw [if_pos rfl, if_pos trivial]
      exact a1.symm
    · rw [if_neg e2, if_neg e1, if_neg e2]
set_option maxRecDepth 100000 in
set_option maxHeartbeats 4000000 in
theorem f_X7_changes {G : gb_G} (hW : gW G) {Q : Option Value → gb_M → Prop} {mM : gb_M} {s : Nat → Nat} {T : Tw} {lo li : Nat} {to : Option Nat} {tm : Nat} (hV : isV G mM s T lo li to tm) (ok : okT T) {l h : Nat} (hl : l < 4) (hh : h < 4)  (hQ : ∀ M', M' 50 = IA G 150 (pgI (chS s T l h)) → pg0 (chS s T l h) (swapT T l h) → sm mM M' 50 50 → Q none M') : Fn G 0 yX7_changes cX7_changes 4 none [.ref (gb_ad G 49), .int (nI (l)), .int (nI (h))] mM Q := by
  obtain ⟨h50, hpg, x3, x4, x5, x6, x7, x9, x10, x11, x12, x13, x14, x15, x16, x24, x26, x31, h49⟩ := hV
  have hV : isV G mM s T lo li to tm := ⟨h50, hpg, x3, x4, x5, x6, x7, x9, x10, x11, x12, x13, x14, x15, x16, x24, x26, x31, h49⟩
  have hn4 := ok.1
  have hN := hW.2.2.1
  refine Fn.of hW.1 [(0, .ref (gb_ad G 49)), (1, .int (nI (l))), (2, .int (nI (h)))] (by decide) (Nat.le_of_ble_eq_true rfl) rfl ?_
  intro X O
  refine w_aload_n (n := 1) O dX7_changes_0 rfl rfl rfl ?_
  refine w_getf (n := 4) O 0 dX7_changes_1 (by omega) h49 rfl (by decide) uX7 uf_X7_7 rfl rfl ?_
  refine w_bipush (n := 6) O dX7_changes_4 (v := (nI 8)) (by decide) rfl ?_
  refine w_iload_n (n := 7) O dX7_changes_6 rfl rfl rfl ?_
  refine w_iaddN (n := 8) O dX7_changes_7 rfl ?_
  refine w_ialdP (n := 9) (v := T.1 (l * 6 + 2)) O dX7_changes_8 hW.2.1 (by omega) h50 (by omega) (by decide) (by omega) (hpg.1 l (by omega)).2.2.1 rfl ?_
  refine w_istore_n (n := 10) (lv' := [(3, .int (nI (T.1 (l * 6 + 2)))), (0, .ref (gb_ad G 49)), (1, .int (nI (l))), (2, .int (nI (h)))]) O dX7_changes_9 rfl (by decide) rfl rfl ?_
  refine w_aload_n (n := 11) O dX7_changes_10 rfl rfl rfl ?_
  refine w_getf (n := 14) O 0 dX7_changes_11 (by omega) h49 rfl (by decide) uX7 uf_X7_7 rfl rfl ?_
  refine w_bipush (n := 16) O dX7_changes_14 (v := (nI 8)) (by decide) rfl ?_
  refine w_iload_n (n := 17) O dX7_changes_16 rfl rfl rfl ?_
  refine w_iaddN (n := 18) O dX7_changes_17 rfl ?_
  refine w_aload_n (n := 19) O dX7_changes_18 rfl rfl rfl ?_
  refine w_getf (n := 22) O 0 dX7_changes_19 (by omega) h49 rfl (by decide) uX7 uf_X7_7 rfl rfl ?_
  refine w_bipush (n := 24) O dX7_changes_22 (v := (nI 8)) (by decide) rfl ?_
  refine w_iload_n (n := 25) O dX7_changes_24 rfl rfl rfl ?_
  refine w_iaddN (n := 26) O dX7_changes_25 rfl ?_
  refine w_ialdP (n := 27) (v := T.1 (h * 6 + 2)) O dX7_changes_26 hW.2.1 (by omega) h50 (by omega) (by decide) (by omega) (hpg.1 h (by omega)).2.2.1 rfl ?_
  refine w_iastP (n := 28) (v := T.1 (h * 6 + 2)) O dX7_changes_27 hW.2.1 (by omega) h50 (by omega) (by decide) (pgI_nv (by omega)) rfl ?_
  refine w_aload_n (n := 29) O dX7_changes_28 rfl rfl rfl ?_
  refine w_getf (n := 32) O 0 dX7_changes_29 (by omega) ((va_up_ne _ _ (by decide)).trans h49) rfl (by decide) uX7 uf_X7_7 rfl rfl ?_
  refine w_bipush (n := 34) O dX7_changes_32 (v := (nI 8)) (by decide) rfl ?_
  refine w_iload_n (n := 35) O dX7_changes_34 rfl rfl rfl ?_
  refine w_iaddN (n := 36) O dX7_changes_35 rfl ?_
  refine w_iload_n (n := 37) O dX7_changes_36 rfl rfl rfl ?_
  refine w_iastP (n := 38) (v := T.1 (l * 6 + 2)) O dX7_changes_37 hW.2.1 (by omega) (va_up_self _ _ _) (by omega) (by decide) (pgI_nv (by omega)) rfl ?_
  refine w_vret O dX7_changes_38 ?_
  exact hQ _ (va_up_self _ _ _) (pg_me (pg_me hpg (by omega)) (by omega)) ((sm.rf.up (by omega) (by omega)).up (by omega) (by omega))
set_option maxRecDepth 100000 in
set_option maxHeartbeats 4000000 in
theorem f_X7_bitsOf {G : gb_G} (hW : gW G) {Q : Option Value → gb_M → Prop} {mM : gb_M} {b : Nat} (hb : b < 16)  (hQ : Q (some (.int (nI (bc b)))) mM) : Fn G 0 yX7_bitsOf cX7_bitsOf 3 (some .int) [.int (nI (b))] mM Q := by
  have hN := hW.2.2.1
  refine Fn.of hW.1 [(0, .int (nI (b)))] (by decide) (Nat.le_of_ble_eq_true rfl) rfl ?_
  intro X O
  refine w_iconst (n := 1) O dX7_bitsOf_0 (v := (nI 0)) (by decide) rfl ?_
  refine w_istore_n (n := 2) (lv' := [(1, .int (nI 0)), (0, .int (nI (b)))]) O dX7_bitsOf_1 rfl (by decide) rfl rfl ?_
  refine w_iconst (n := 3) O dX7_bitsOf_2 (v := (nI 0)) (by decide) rfl ?_
  refine w_istore_n (n := 4) (lv' := [(2, .int (nI 0)), (1, .int (nI 0)), (0, .int (nI (b)))]) O dX7_bitsOf_3 rfl (by decide) rfl rfl ?_
  have LB : ∀ (k : Nat) (i c : Nat), 4 - i = k → i ≤ 4 → c = sCnt (hasB b) i → Wm G X 3 Q 4 [(0, .int (nI (b))), (1, .int (nI (c))), (2, .int (nI (i)))] [] mM := by
    intro k
    induction k using Nat.strongRecOn with
    | ind k ih_LB =>
      intro i c hk hi hc
      have hsl := sh_le b i
      refine w_iload_n (n := 5) O dX7_bitsOf_4 rfl rfl rfl ?_
      refine w_iconst (n := 6) O dX7_bitsOf_5 (v := (nI 4)) (by decide) rfl ?_
      refine w_icmp_geN (n := 9) (tgt := 23) O dX7_bitsOf_6 (by omega) (by omega) (by decide) rfl (fun c_1 => ?_) (fun c_1 => ?_)
      · skip
        refine w_iload_n (n := 24) O dX7_bitsOf_23 rfl rfl rfl ?_
        refine w_iret O dX7_bitsOf_24 ?_
        have e : bc b = c := by unfold bc; rw [hc, show i = 4 by omega]
        rw [e] at hQ
        exact hQ
      · skip
        refine w_iload_n (n := 10) O dX7_bitsOf_9 rfl rfl rfl ?_
        refine w_iload_n (n := 11) O dX7_bitsOf_10 rfl rfl rfl ?_
        refine w_iload_n (n := 12) O dX7_bitsOf_11 rfl rfl rfl ?_
        refine w_ishr (n := 13) O dX7_bitsOf_12 rfl ?_
        refine w_top (nI (b / 2 ^ i)) (nI_shr (by omega) (by omega)) ?_
        refine w_iconst (n := 14) O dX7_bitsOf_13 (v := (nI 1)) (by decide) rfl ?_
        refine w_iand (n := 15) O dX7_bitsOf_14 rfl ?_
        refine w_top (nI ((b / 2 ^ i) % 2)) (nI_and1 (by omega)) ?_
        refine w_iaddN (n := 16) O dX7_bitsOf_15 rfl ?_
        refine w_istore_n (n := 17) (lv' := [(1, .int (nI ((c + ((b / 2 ^ i) % 2))))), (0, .int (nI (b))), (2, .int (nI (i)))]) O dX7_bitsOf_16 rfl (by decide) rfl rfl ?_
        refine w_iincN (n := 20) (lv' := [(2, .int (nI (i + 1))), (1, .int (nI ((c + ((b / 2 ^ i) % 2))))), (0, .int (nI (b)))]) O dX7_bitsOf_17 rfl (by decide) rfl rfl ?_
        refine w_goto (tgt := 4) O dX7_bitsOf_20 (by decide) ?_
        refine w_lv (lv2 := [(0, .int (nI (b))), (1, .int (nI ((c + ((b / 2 ^ i) % 2))))), (2, .int (nI (i + 1)))]) [2, 1, 0] rfl ?_
        exact ih_LB _ (by omega) (i + 1) ((c + ((b / 2 ^ i) % 2))) rfl (by omega) (by rw [sCnt, ← hc]; unfold hasB; by_cases e : b / 2 ^ i % 2 = 1; (simp [e]); (simp [e]; omega))
  refine w_lv (lv2 := [(0, .int (nI (b))), (1, .int (nI 0)), (2, .int (nI 0))]) [2, 1, 0] rfl ?_
  exact LB _ 0 0 rfl (by omega) rfl
set_option maxRecDepth 100000 in
set_option maxHeartbeats 4000000 in
theorem f_X7_numbers {G : gb_G} (hW : gW G) {Q : Option Value → gb_M → Prop} {mM : gb_M} {s : Nat → Nat} {T : Tw} {lo li : Nat} {to : Option Nat} {tm : Nat} (hV : isV G mM s T lo li to tm) (ok : okT T)  (hQ : Q (some (.int (nI (allG T)))) mM) : Fn G 0 yX7_numbers cX7_numbers 3 (some .int) [.ref (gb_ad G 49)] mM Q := by
  obtain ⟨h50, hpg, x3, x4, x5, x6, x7, x9, x10, x11, x12, x13, x14, x15, x16, x24, x26, x31, h49⟩ := hV
  have hV : isV G mM s T lo li to tm := ⟨h50, hpg, x3, x4, x5, x6, x7, x9, x10, x11, x12, x13, x14, x15, x16, x24, x26, x31, h49⟩
  have hn4 := ok.1
  have hN := hW.2.2.1
  refine Fn.of hW.1 [(0, .ref (gb_ad G 49))] (by decide) (Nat.le_of_ble_eq_true rfl) rfl ?_
  intro X O
  refine w_iconst (n := 1) O dX7_numbers_0 (v := (nI 1)) (by decide) rfl ?_
  refine w_istore_n (n := 2) (lv' := [(1, .int (nI 1)), (0, .ref (gb_ad G 49))]) O dX7_numbers_1 rfl (by decide) rfl rfl ?_
  refine w_iconst (n := 3) O dX7_numbers_2 (v := (nI 0)) (by decide) rfl ?_
  refine w_istore_n (n := 4) (lv' := [(2, .int (nI 0)), (1, .int (nI 1)), (0, .ref (gb_ad G 49))]) O dX7_numbers_3 rfl (by decide) rfl rfl ?_
  have LA : ∀ (k : Nat) (i c : Nat), T.2.2.2.1 - i = k → i ≤ T.2.2.2.1 → c = 10 ^ i → Wm G X 3 Q 4 [(0, .ref (gb_ad G 49)), (1, .int (nI (c))), (2, .int (nI (i)))] [] mM := by
    intro k
    induction k using Nat.strongRecOn with
    | ind k ih_LA =>
      intro i c hk hi hc
      refine w_iload_n (n := 5) O dX7_numbers_4 rfl rfl rfl ?_
      refine w_aload_n (n := 6) O dX7_numbers_5 rfl rfl rfl ?_
      refine w_getf (n := 9) O 1 dX7_numbers_6 (by omega) h49 rfl (by decide) uX7 uf_X7_136 rfl rfl ?_
      refine w_icmp_geN (n := 12) (tgt := 23) O dX7_numbers_9 (by omega) (by omega) (by decide) rfl (fun c_1 => ?_) (fun c_1 => ?_)
      · skip
        refine w_iload_n (n := 24) O dX7_numbers_23 rfl rfl rfl ?_
        refine w_iret O dX7_numbers_24 ?_
        have e : allG T = c := by unfold allG; rw [hc, show T.2.2.2.1 = i by omega]
        rw [e] at hQ
        exact hQ
      · skip
        refine w_iload_n (n := 13) O dX7_numbers_12 rfl rfl rfl ?_
        refine w_bipush (n := 15) O dX7_numbers_13 (v := (nI 10)) (by decide) rfl ?_
        refine w_imulN (n := 16) O dX7_numbers_15 rfl ?_
        refine w_istore_n (n := 17) (lv' := [(1, .int (nI ((c * 10)))), (0, .ref (gb_ad G 49)), (2, .int (nI (i)))]) O dX7_numbers_16 rfl (by decide) rfl rfl ?_
        refine w_iincN (n := 20) (lv' := [(2, .int (nI (i + 1))), (1, .int (nI ((c * 10)))), (0, .ref (gb_ad G 49))]) O dX7_numbers_17 rfl (by decide) rfl rfl ?_
        refine w_goto (tgt := 4) O dX7_numbers_20 (by decide) ?_
        refine w_lv (lv2 := [(0, .ref (gb_ad G 49)), (1, .int (nI ((c * 10)))), (2, .int (nI (i + 1)))]) [2, 1, 0] rfl ?_
        exact ih_LA _ (by omega) (i + 1) ((c * 10)) rfl (by omega) (by rw [hc, Nat.pow_succ])
  refine w_lv (lv2 := [(0, .ref (gb_ad G 49)), (1, .int (nI 1)), (2, .int (nI 0))]) [2, 1, 0] rfl ?_
  exact LA _ 0 1 rfl (Nat.zero_le _) rfl
set_option maxRecDepth 100000 in
set_option maxHeartbeats 4000000 in
theorem f_X7_lowest {G : gb_G} (hW : gW G) {Q : Option Value → gb_M → Prop} {mM : gb_M} {up dn w : Nat} (hup : up < 2 ^ 62) (hdn : dn < 2 ^ 62) (hdn0 : 0 < dn) (hw1 : w ≤ 1)  (hQ : Q (some (.long (lN (fracN up dn w)))) mM) : Fn G 0 yX7_lowest cX7_lowest 11 (some .long) [.long (lN up), .long (lN dn), .int (nI (w))] mM Q := by
  have hN := hW.2.2.1
  refine Fn.of hW.1 [(0, .long (lN up)), (2, .long (lN dn)), (4, .int (nI (w)))] (by decide) (Nat.le_of_ble_eq_true rfl) rfl ?_
  intro X O
  refine w_lload_n (n := 1) O dX7_lowest_0 rfl rfl rfl ?_
  refine w_lstore (n := 3) (lv' := [(5, .long (lN up)), (0, .long (lN up)), (2, .long (lN dn)), (4, .int (nI (w)))]) O dX7_lowest_1 (by decide) rfl rfl ?_
  refine w_lload_n (n := 4) O dX7_lowest_3 rfl rfl rfl ?_
  refine w_lstore (n := 6) (lv' := [(7, .long (lN dn)), (5, .long (lN up)), (0, .long (lN up)), (2, .long (lN dn)), (4, .int (nI (w)))]) O dX7_lowest_4 (by decide) rfl rfl ?_
  have LE : ∀ (k : Nat) (aa bb : Nat), bb = k → Nat.gcd aa bb = Nat.gcd up dn → aa < 2 ^ 62 → bb < 2 ^ 62 → Wm G X 11 Q 6 [(0, .long (lN up)), (2, .long (lN dn)), (4, .int (nI (w))), (5, .long (lN aa)), (7, .long (lN bb))] [] mM := by
    intro k
    induction k using Nat.strongRecOn with
    | ind k ih_LE =>
      intro aa bb hk hgcd hal hbl
      refine w_lload (n := 8) O dX7_lowest_6 rfl rfl ?_
      refine w_lconst (n := 9) O dX7_lowest_8 (v := lN 0) (by decide) rfl ?_
      refine w_lcmp (n := 10) O dX7_lowest_9 rfl ?_
      refine w_if_eq (n := 13) (tgt := 31) O dX7_lowest_10 (by decide) rfl (fun c_1 => ?_) (fun c_1 => ?_)
      · skip
        have hb0 : bb = 0 := (cmp_eq (by omega) (by decide)).mp c_1
        subst hb0
        have hga : aa = Nat.gcd up dn := by rw [← hgcd, Nat.gcd_zero_right]
        have hgp : 0 < aa := by rw [hga]; exact Nat.gcd_pos_of_pos_right _ hdn0
        refine w_iload (n := 33) O dX7_lowest_31 rfl rfl ?_
        refine w_if_neN (n := 36) (tgt := 40) O dX7_lowest_33 (by omega) (by decide) rfl (fun c_2 => ?_) (fun c_2 => ?_)
        · skip
          refine w_lload_n (n := 41) O dX7_lowest_40 rfl rfl rfl ?_
          refine w_lload (n := 43) O dX7_lowest_41 rfl rfl ?_
          refine w_ldivK (n := 44) O dX7_lowest_43 (by omega) (by omega) (by omega) rfl ?_
          refine w_lret O dX7_lowest_44 ?_
          have e : fracN up dn w = (dn / aa) := by unfold fracN; rw [← hga]; first | rw [if_pos c_2] | rw [if_neg c_2]
          rw [e] at hQ
          exact hQ
        · skip
          refine w_lload_n (n := 37) O dX7_lowest_36 rfl rfl rfl ?_
          refine w_goto (tgt := 41) O dX7_lowest_37 (by decide) ?_
          refine w_lload (n := 43) O dX7_lowest_41 rfl rfl ?_
          refine w_ldivK (n := 44) O dX7_lowest_43 (by omega) (by omega) (by omega) rfl ?_
          refine w_lret O dX7_lowest_44 ?_
          have e : fracN up dn w = (up / aa) := by unfold fracN; rw [← hga]; first | rw [if_pos c_2] | rw [if_neg c_2]
          rw [e] at hQ
          exact hQ
      · skip
        have hb0 : ¬ bb = 0 := fun z => c_1 ((cmp_eq (by omega) (by decide)).mpr z)
        refine w_lload (n := 15) O dX7_lowest_13 rfl rfl ?_
        refine w_lload (n := 17) O dX7_lowest_15 rfl rfl ?_
        refine w_lremK (n := 18) O dX7_lowest_17 (by omega) (by omega) (by omega) rfl ?_
        refine w_lstore (n := 20) (lv' := [(9, .long (lN (aa % bb))), (0, .long (lN up)), (2, .long (lN dn)), (4, .int (nI (w))), (5, .long (lN aa)), (7, .long (lN bb))]) O dX7_lowest_18 (by decide) rfl rfl ?_
        refine w_lload (n := 22) O dX7_lowest_20 rfl rfl ?_
        refine w_lstore (n := 24) (lv' := [(5, .long (lN bb)), (9, .long (lN (aa % bb))), (0, .long (lN up)), (2, .long (lN dn)), (4, .int (nI (w))), (7, .long (lN bb))]) O dX7_lowest_22 (by decide) rfl rfl ?_
        refine w_lload (n := 26) O dX7_lowest_24 rfl rfl ?_
        refine w_lstore (n := 28) (lv' := [(7, .long (lN (aa % bb))), (5, .long (lN bb)), (9, .long (lN (aa % bb))), (0, .long (lN up)), (2, .long (lN dn)), (4, .int (nI (w)))]) O dX7_lowest_26 (by decide) rfl rfl ?_
        refine w_goto (tgt := 6) O dX7_lowest_28 (by decide) ?_
        have hmlt := Nat.mod_lt aa (show 0 < bb by omega)
        refine w_lv (lv2 := [(0, .long (lN up)), (2, .long (lN dn)), (4, .int (nI (w))), (5, .long (lN bb)), (7, .long (lN (aa % bb)))]) [3, 4, 5, 1, 0] rfl ?_
        exact ih_LE _ (by omega) bb (aa % bb) rfl (by rw [← hgcd, Nat.gcd_comm bb, ← Nat.gcd_rec bb aa, Nat.gcd_comm bb]) hbl (by have := Nat.mod_lt aa (show 0 < bb by omega); omega)
  refine w_lv (lv2 := [(0, .long (lN up)), (2, .long (lN dn)), (4, .int (nI (w))), (5, .long (lN up)), (7, .long (lN dn))]) [2, 3, 4, 1, 0] rfl ?_
  exact LE _ up dn rfl rfl (by omega) (by omega)
