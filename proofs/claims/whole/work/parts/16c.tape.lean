set_option maxRecDepth 100000 in
set_option maxHeartbeats 4000000 in
theorem f_X4_rewind {G : gb_G} (hW : gW G) {Q : Option Value → gb_M → Prop} {mM : gb_M} {bs : Nat → Nat} {ln pl so sa nu : Nat} (hP : isP G mM bs ln pl so sa nu)  (hQ : ∀ M', isP G M' bs ln 0 so sa nu → sm mM M' 12 13 → Q none M') : Fn G 0 yX4_rewind cX4_rewind 1 none [.ref (gb_ad G 12)] mM Q := by
  have hN := hW.2.2.1
  refine Fn.of hW.1 [(0, .ref (gb_ad G 12))] (by decide) (Nat.le_of_ble_eq_true rfl) rfl ?_
  intro X O
  refine w_aload_n (n := 1) O dX4_rewind_0 rfl rfl rfl ?_
  refine w_iconst (n := 2) O dX4_rewind_1 (v := (nI 0)) (by decide) rfl ?_
  refine w_putf (n := 5) (fs' := [.ref (gb_ad G 13), .int (nI (ln)), .int (nI 0), .int (nI (so)), .int (nI (sa)), .int (nI (nu))]) O 2 dX4_rewind_2 (by omega) hP.1 rfl (by decide) uX4 uf_X4_19 tyX4 tyX4_ok nmX4 rfl rfl rfl (Nat.le_of_ble_eq_true rfl) rfl rfl ?_
  refine w_vret O dX4_rewind_5 ?_
  exact hQ _ ⟨(va_up_self _ _ _), ((va_up_ne _ _ (by decide)).trans hP.2)⟩ (sm.rf.up (by omega) (by omega))
set_option maxRecDepth 100000 in
set_option maxHeartbeats 4000000 in
theorem f_X4_takeRun {G : gb_G} (hW : gW G) {Q : Option Value → gb_M → Prop} {mM : gb_M} {bs : Nat → Nat} {ln pl so sa nu : Nat} (hP : isP G mM bs ln pl so sa nu) (hln : ln ≤ 160) (hbs : ∀ k, k < ln → bs k ≤ 127) (hpl : pl ≤ ln) (hsa : sa ≤ 160) {lo hi : Nat} (hlo : lo ≤ 127) (hhi : hi ≤ 127)  (hQ : ∀ M', isP G M' bs ln (rn bs ln lo hi pl) so sa nu → sm mM M' 12 13 → Q (some (.int (bI (decide (sa < rn bs ln lo hi pl))))) M') : Fn G 0 yX4_takeRun cX4_takeRun 3 (some .boolean) [.ref (gb_ad G 12), .int (nI (lo)), .int (nI (hi))] mM Q := by
  have hN := hW.2.2.1
  refine Fn.of hW.1 [(0, .ref (gb_ad G 12)), (1, .int (nI (lo))), (2, .int (nI (hi)))] (by decide) (Nat.le_of_ble_eq_true rfl) rfl ?_
  intro X O
  have TR : ∀ (k : Nat) (q : Nat) (m1 : gb_M), ln - q = k → q ≤ ln → rn bs ln lo hi pl = rn bs ln lo hi q → isP G m1 bs ln q so sa nu → sm mM m1 12 13 → Wm G X 3 Q 0 [(0, .ref (gb_ad G 12)), (1, .int (nI (lo))), (2, .int (nI (hi)))] [] m1 := by
    intro k
    induction k using Nat.strongRecOn with
    | ind k ih_TR =>
      intro q m1 hk hq hrn hP1 hs1
      refine w_aload_n (n := 1) O dX4_takeRun_0 rfl rfl rfl ?_
      refine w_getf (n := 4) O 2 dX4_takeRun_1 (by omega) hP1.1 rfl (by decide) uX4 uf_X4_19 rfl rfl ?_
      refine w_aload_n (n := 5) O dX4_takeRun_4 rfl rfl rfl ?_
      refine w_getf (n := 8) O 1 dX4_takeRun_5 (by omega) hP1.1 rfl (by decide) uX4 uf_X4_15 rfl rfl ?_
      refine w_icmp_geN (n := 11) (tgt := 50) O dX4_takeRun_8 (by omega) (by omega) (by decide) rfl (fun c_1 => ?_) (fun c_1 => ?_)
      · skip
        refine w_aload_n (n := 51) O dX4_takeRun_50 rfl rfl rfl ?_
        refine w_getf (n := 54) O 2 dX4_takeRun_51 (by omega) hP1.1 rfl (by decide) uX4 uf_X4_19 rfl rfl ?_
        refine w_aload_n (n := 55) O dX4_takeRun_54 rfl rfl rfl ?_
        refine w_getf (n := 58) O 4 dX4_takeRun_55 (by omega) hP1.1 rfl (by decide) uX4 uf_X4_25 rfl rfl ?_
        refine w_icmp_leN (n := 61) (tgt := 65) O dX4_takeRun_58 (by omega) (by omega) (by decide) rfl (fun c_2 => ?_) (fun c_2 => ?_)
        · skip
          refine w_iconst (n := 66) O dX4_takeRun_65 (v := (nI 0)) (by decide) rfl ?_
          refine w_zret O dX4_takeRun_66 (by decide) ?_
          have e : rn bs ln lo hi pl = q := hrn.trans (rn_stop (by omega))
          rw [e, decide_eq_false (by omega)] at hQ
          exact hQ _ ⟨hP1.1, hP1.2⟩ (sm.rf.tr (hs1.mono (by omega) (by omega)))
        · skip
          refine w_iconst (n := 62) O dX4_takeRun_61 (v := (nI 1)) (by decide) rfl ?_
          refine w_goto (tgt := 66) O dX4_takeRun_62 (by decide) ?_
          refine w_zret O dX4_takeRun_66 (by decide) ?_
          have e : rn bs ln lo hi pl = q := hrn.trans (rn_stop (by omega))
          rw [e, decide_eq_true (by omega)] at hQ
          exact hQ _ ⟨hP1.1, hP1.2⟩ (sm.rf.tr (hs1.mono (by omega) (by omega)))
      · skip
        have hbq := hbs q (by omega)
        refine w_aload_n (n := 12) O dX4_takeRun_11 rfl rfl rfl ?_
        refine w_getf (n := 15) O 0 dX4_takeRun_12 (by omega) hP1.1 rfl (by decide) uX4 uf_X4_9 rfl rfl ?_
        refine w_aload_n (n := 16) O dX4_takeRun_15 rfl rfl rfl ?_
        refine w_getf (n := 19) O 2 dX4_takeRun_16 (by omega) hP1.1 rfl (by decide) uX4 uf_X4_19 rfl rfl ?_
        refine w_ialdN (n := 20) O dX4_takeRun_19 hW.2.1 (by omega) hP1.2 (by omega) (by decide) rfl ?_
        refine w_iload_n (n := 21) O dX4_takeRun_20 rfl rfl rfl ?_
        refine w_icmp_ltN (n := 24) (tgt := 50) O dX4_takeRun_21 (by omega) (by omega) (by decide) rfl (fun c_3 => ?_) (fun c_3 => ?_)
        · skip
          refine w_aload_n (n := 51) O dX4_takeRun_50 rfl rfl rfl ?_
          refine w_getf (n := 54) O 2 dX4_takeRun_51 (by omega) hP1.1 rfl (by decide) uX4 uf_X4_19 rfl rfl ?_
          refine w_aload_n (n := 55) O dX4_takeRun_54 rfl rfl rfl ?_
          refine w_getf (n := 58) O 4 dX4_takeRun_55 (by omega) hP1.1 rfl (by decide) uX4 uf_X4_25 rfl rfl ?_
          refine w_icmp_leN (n := 61) (tgt := 65) O dX4_takeRun_58 (by omega) (by omega) (by decide) rfl (fun c_4 => ?_) (fun c_4 => ?_)
          · skip
            refine w_iconst (n := 66) O dX4_takeRun_65 (v := (nI 0)) (by decide) rfl ?_
            refine w_zret O dX4_takeRun_66 (by decide) ?_
            have e : rn bs ln lo hi pl = q := hrn.trans (rn_stop (by omega))
            rw [e, decide_eq_false (by omega)] at hQ
            exact hQ _ ⟨hP1.1, hP1.2⟩ (sm.rf.tr (hs1.mono (by omega) (by omega)))
          · skip
            refine w_iconst (n := 62) O dX4_takeRun_61 (v := (nI 1)) (by decide) rfl ?_
            refine w_goto (tgt := 66) O dX4_takeRun_62 (by decide) ?_
            refine w_zret O dX4_takeRun_66 (by decide) ?_
            have e : rn bs ln lo hi pl = q := hrn.trans (rn_stop (by omega))
            rw [e, decide_eq_true (by omega)] at hQ
            exact hQ _ ⟨hP1.1, hP1.2⟩ (sm.rf.tr (hs1.mono (by omega) (by omega)))
        · skip
          refine w_aload_n (n := 25) O dX4_takeRun_24 rfl rfl rfl ?_
          refine w_getf (n := 28) O 0 dX4_takeRun_25 (by omega) hP1.1 rfl (by decide) uX4 uf_X4_9 rfl rfl ?_
          refine w_aload_n (n := 29) O dX4_takeRun_28 rfl rfl rfl ?_
          refine w_getf (n := 32) O 2 dX4_takeRun_29 (by omega) hP1.1 rfl (by decide) uX4 uf_X4_19 rfl rfl ?_
          refine w_ialdN (n := 33) O dX4_takeRun_32 hW.2.1 (by omega) hP1.2 (by omega) (by decide) rfl ?_
          refine w_iload_n (n := 34) O dX4_takeRun_33 rfl rfl rfl ?_
          refine w_icmp_gtN (n := 37) (tgt := 50) O dX4_takeRun_34 (by omega) (by omega) (by decide) rfl (fun c_5 => ?_) (fun c_5 => ?_)
          · skip
            refine w_aload_n (n := 51) O dX4_takeRun_50 rfl rfl rfl ?_
            refine w_getf (n := 54) O 2 dX4_takeRun_51 (by omega) hP1.1 rfl (by decide) uX4 uf_X4_19 rfl rfl ?_
            refine w_aload_n (n := 55) O dX4_takeRun_54 rfl rfl rfl ?_
            refine w_getf (n := 58) O 4 dX4_takeRun_55 (by omega) hP1.1 rfl (by decide) uX4 uf_X4_25 rfl rfl ?_
            refine w_icmp_leN (n := 61) (tgt := 65) O dX4_takeRun_58 (by omega) (by omega) (by decide) rfl (fun c_6 => ?_) (fun c_6 => ?_)
            · skip
              refine w_iconst (n := 66) O dX4_takeRun_65 (v := (nI 0)) (by decide) rfl ?_
              refine w_zret O dX4_takeRun_66 (by decide) ?_
              have e : rn bs ln lo hi pl = q := hrn.trans (rn_stop (by omega))
              rw [e, decide_eq_false (by omega)] at hQ
              exact hQ _ ⟨hP1.1, hP1.2⟩ (sm.rf.tr (hs1.mono (by omega) (by omega)))
            · skip
              refine w_iconst (n := 62) O dX4_takeRun_61 (v := (nI 1)) (by decide) rfl ?_
              refine w_goto (tgt := 66) O dX4_takeRun_62 (by decide) ?_
              refine w_zret O dX4_takeRun_66 (by decide) ?_
              have e : rn bs ln lo hi pl = q := hrn.trans (rn_stop (by omega))
              rw [e, decide_eq_true (by omega)] at hQ
              exact hQ _ ⟨hP1.1, hP1.2⟩ (sm.rf.tr (hs1.mono (by omega) (by omega)))
          · skip
            refine w_aload_n (n := 38) O dX4_takeRun_37 rfl rfl rfl ?_
            refine w_dup (n := 39) O dX4_takeRun_38 rfl rfl ?_
            refine w_getf (n := 42) O 2 dX4_takeRun_39 (by omega) hP1.1 rfl (by decide) uX4 uf_X4_19 rfl rfl ?_
            refine w_iconst (n := 43) O dX4_takeRun_42 (v := (nI 1)) (by decide) rfl ?_
            refine w_iaddN (n := 44) O dX4_takeRun_43 rfl ?_
            refine w_putf (n := 47) (fs' := [.ref (gb_ad G 13), .int (nI (ln)), .int (nI ((q + 1))), .int (nI (so)), .int (nI (sa)), .int (nI (nu))]) O 2 dX4_takeRun_44 (by omega) hP1.1 rfl (by decide) uX4 uf_X4_19 tyX4 tyX4_ok nmX4 rfl rfl rfl (Nat.le_of_ble_eq_true rfl) rfl rfl ?_
            refine w_goto (tgt := 0) O dX4_takeRun_47 (by decide) ?_
            refine w_lv (lv2 := [(0, .ref (gb_ad G 12)), (1, .int (nI (lo))), (2, .int (nI (hi)))]) [0, 1, 2] rfl ?_
            exact ih_TR _ (by omega) (q + 1) _ rfl (by omega) (hrn.trans (rn_go (by omega) (by omega) (by omega))) ⟨(va_up_self _ _ _), ((va_up_ne _ _ (by decide)).trans hP1.2)⟩ ((sm.rf.tr (hs1.mono (by omega) (by omega))).up (by omega) (by omega))
  refine w_lv (lv2 := [(0, .ref (gb_ad G 12)), (1, .int (nI (lo))), (2, .int (nI (hi)))]) [0, 1, 2] rfl ?_
  exact TR _ pl mM rfl hpl rfl hP sm.rf
set_option maxRecDepth 100000 in
set_option maxHeartbeats 4000000 in
theorem f_X4_readNumber {G : gb_G} (hW : gW G) {Q : Option Value → gb_M → Prop} {mM : gb_M} {bs : Nat → Nat} {ln pl so sa nu : Nat} (hP : isP G mM bs ln pl so sa nu) (hln : ln ≤ 160) (hbs : ∀ k, k < ln → bs k ≤ 127) (hpl : pl ≤ ln) (hsa : sa < pl) (hdg : ∀ q, sa ≤ q → q < pl → 48 ≤ bs q)  (hQ : ∀ M', isP G M' bs ln pl (if pl - sa ≤ 2 then 3 else 0) sa (numV bs sa pl) → sm mM M' 12 13 → Q none M') : Fn G 0 yX4_readNumber cX4_readNumber 2 none [.ref (gb_ad G 12)] mM Q := by
  have hN := hW.2.2.1
  refine Fn.of hW.1 [(0, .ref (gb_ad G 12))] (by decide) (Nat.le_of_ble_eq_true rfl) rfl ?_
  intro X O
  have hb0 := hdg sa (Nat.le_refl _) hsa
  have hb1 := hbs sa (by omega)
  refine w_aload_n (n := 1) O dX4_readNumber_0 rfl rfl rfl ?_
  refine w_getf (n := 4) O 2 dX4_readNumber_1 (by omega) hP.1 rfl (by decide) uX4 uf_X4_19 rfl rfl ?_
  refine w_aload_n (n := 5) O dX4_readNumber_4 rfl rfl rfl ?_
  refine w_getf (n := 8) O 4 dX4_readNumber_5 (by omega) hP.1 rfl (by decide) uX4 uf_X4_25 rfl rfl ?_
  refine w_isubN (n := 9) O dX4_readNumber_8 (by omega) rfl ?_
  refine w_istore_n (n := 10) (lv' := [(1, .int (nI ((pl - sa)))), (0, .ref (gb_ad G 12))]) O dX4_readNumber_9 rfl (by decide) rfl rfl ?_
  refine w_aload_n (n := 11) O dX4_readNumber_10 rfl rfl rfl ?_
  refine w_iload_n (n := 12) O dX4_readNumber_11 rfl rfl rfl ?_
  refine w_iconst (n := 13) O dX4_readNumber_12 (v := (nI 2)) (by decide) rfl ?_
  refine w_icmp_gtN (n := 16) (tgt := 20) O dX4_readNumber_13 (by omega) (by omega) (by decide) rfl (fun c_1 => ?_) (fun c_1 => ?_)
  · skip
    refine w_iconst (n := 21) O dX4_readNumber_20 (v := (nI 0)) (by decide) rfl ?_
    refine w_putf (n := 24) (fs' := [.ref (gb_ad G 13), .int (nI (ln)), .int (nI (pl)), .int (nI 0), .int (nI (sa)), .int (nI (nu))]) O 3 dX4_readNumber_21 (by omega) hP.1 rfl (by decide) uX4 uf_X4_22 tyX4 tyX4_ok nmX4 rfl rfl rfl (Nat.le_of_ble_eq_true rfl) rfl rfl ?_
    refine w_aload_n (n := 25) O dX4_readNumber_24 rfl rfl rfl ?_
    refine w_aload_n (n := 26) O dX4_readNumber_25 rfl rfl rfl ?_
    refine w_getf (n := 29) O 0 dX4_readNumber_26 (by omega) (va_up_self _ _ _) rfl (by decide) uX4 uf_X4_9 rfl rfl ?_
    refine w_aload_n (n := 30) O dX4_readNumber_29 rfl rfl rfl ?_
    refine w_getf (n := 33) O 4 dX4_readNumber_30 (by omega) (va_up_self _ _ _) rfl (by decide) uX4 uf_X4_25 rfl rfl ?_
    refine w_ialdN (n := 34) O dX4_readNumber_33 hW.2.1 (by omega) ((va_up_ne _ _ (by decide)).trans hP.2) (by omega) (by decide) rfl ?_
    refine w_bipush (n := 36) O dX4_readNumber_34 (v := (nI 48)) (by decide) rfl ?_
    refine w_isubN (n := 37) O dX4_readNumber_36 (by omega) rfl ?_
    refine w_putf (n := 40) (fs' := [.ref (gb_ad G 13), .int (nI (ln)), .int (nI (pl)), .int (nI 0), .int (nI (sa)), .int (nI (((bs (sa)) - 48)))]) O 5 dX4_readNumber_37 (by omega) (va_up_self _ _ _) rfl (by decide) uX4 uf_X4_28 tyX4 tyX4_ok nmX4 rfl rfl rfl (Nat.le_of_ble_eq_true rfl) rfl rfl ?_
    refine w_iload_n (n := 41) O dX4_readNumber_40 rfl rfl rfl ?_
    refine w_iconst (n := 42) O dX4_readNumber_41 (v := (nI 2)) (by decide) rfl ?_
    refine w_icmp_neN (n := 45) (tgt := 71) O dX4_readNumber_42 (by omega) (by omega) (by decide) rfl (fun c_2 => ?_) (fun c_2 => ?_)
    · skip
      refine w_vret O dX4_readNumber_71 ?_
      have e1 : (if pl - sa ≤ 2 then 3 else 0) = 0 := if_neg (by omega)
      have e2 : numV bs sa pl = ((bs (sa)) - 48) := by unfold numV; rw [if_neg (by omega)]
      rw [e1, e2] at hQ
      exact hQ _ ⟨(va_up_self _ _ _), ((va_up_ne _ _ (by decide)).trans ((va_up_ne _ _ (by decide)).trans hP.2))⟩ ((sm.rf.up (by omega) (by omega)).up (by omega) (by omega))
    · skip
      have hb2 := hdg (sa + 1) (by omega) (by omega)
      have hb3 := hbs (sa + 1) (by omega)
      refine w_aload_n (n := 46) O dX4_readNumber_45 rfl rfl rfl ?_
      refine w_bipush (n := 48) O dX4_readNumber_46 (v := (nI 10)) (by decide) rfl ?_
      refine w_aload_n (n := 49) O dX4_readNumber_48 rfl rfl rfl ?_
      refine w_getf (n := 52) O 5 dX4_readNumber_49 (by omega) (va_up_self _ _ _) rfl (by decide) uX4 uf_X4_28 rfl rfl ?_
      refine w_imulN (n := 53) O dX4_readNumber_52 rfl ?_
      refine w_aload_n (n := 54) O dX4_readNumber_53 rfl rfl rfl ?_
      refine w_getf (n := 57) O 0 dX4_readNumber_54 (by omega) (va_up_self _ _ _) rfl (by decide) uX4 uf_X4_9 rfl rfl ?_
      refine w_aload_n (n := 58) O dX4_readNumber_57 rfl rfl rfl ?_
      refine w_getf (n := 61) O 4 dX4_readNumber_58 (by omega) (va_up_self _ _ _) rfl (by decide) uX4 uf_X4_25 rfl rfl ?_
      refine w_iconst (n := 62) O dX4_readNumber_61 (v := (nI 1)) (by decide) rfl ?_
      refine w_iaddN (n := 63) O dX4_readNumber_62 rfl ?_
      refine w_ialdN (n := 64) O dX4_readNumber_63 hW.2.1 (by omega) ((va_up_ne _ _ (by decide)).trans ((va_up_ne _ _ (by decide)).trans hP.2)) (by omega) (by decide) rfl ?_
      refine w_iaddN (n := 65) O dX4_readNumber_64 rfl ?_
      refine w_bipush (n := 67) O dX4_readNumber_65 (v := (nI 48)) (by decide) rfl ?_
      refine w_isubN (n := 68) O dX4_readNumber_67 (by omega) rfl ?_
      refine w_putf (n := 71) (fs' := [.ref (gb_ad G 13), .int (nI (ln)), .int (nI (pl)), .int (nI 0), .int (nI (sa)), .int (nI ((((10 * ((bs (sa)) - 48)) + (bs ((sa + 1)))) - 48)))]) O 5 dX4_readNumber_68 (by omega) (va_up_self _ _ _) rfl (by decide) uX4 uf_X4_28 tyX4 tyX4_ok nmX4 rfl rfl rfl (Nat.le_of_ble_eq_true rfl) rfl rfl ?_
      refine w_vret O dX4_readNumber_71 ?_
      have e1 : (if pl - sa ≤ 2 then 3 else 0) = 0 := if_neg (by omega)
      have e2 : numV bs sa pl = (((10 * ((bs (sa)) - 48)) + (bs ((sa + 1)))) - 48) := by unfold numV; rw [if_pos (by omega)]
      rw [e1, e2] at hQ
      exact hQ _ ⟨(va_up_self _ _ _), ((va_up_ne _ _ (by decide)).trans ((va_up_ne _ _ (by decide)).trans ((va_up_ne _ _ (by decide)).trans hP.2)))⟩ (((sm.rf.up (by omega) (by omega)).up (by omega) (by omega)).up (by omega) (by omega))
  · skip
    refine w_iconst (n := 17) O dX4_readNumber_16 (v := (nI 3)) (by decide) rfl ?_
    refine w_goto (tgt := 21) O dX4_readNumber_17 (by decide) ?_
    refine w_putf (n := 24) (fs' := [.ref (gb_ad G 13), .int (nI (ln)), .int (nI (pl)), .int (nI 3), .int (nI (sa)), .int (nI (nu))]) O 3 dX4_readNumber_21 (by omega) hP.1 rfl (by decide) uX4 uf_X4_22 tyX4 tyX4_ok nmX4 rfl rfl rfl (Nat.le_of_ble_eq_true rfl) rfl rfl ?_
    refine w_aload_n (n := 25) O dX4_readNumber_24 rfl rfl rfl ?_
    refine w_aload_n (n := 26) O dX4_readNumber_25 rfl rfl rfl ?_
    refine w_getf (n := 29) O 0 dX4_readNumber_26 (by omega) (va_up_self _ _ _) rfl (by decide) uX4 uf_X4_9 rfl rfl ?_
    refine w_aload_n (n := 30) O dX4_readNumber_29 rfl rfl rfl ?_
    refine w_getf (n := 33) O 4 dX4_readNumber_30 (by omega) (va_up_self _ _ _) rfl (by decide) uX4 uf_X4_25 rfl rfl ?_
    refine w_ialdN (n := 34) O dX4_readNumber_33 hW.2.1 (by omega) ((va_up_ne _ _ (by decide)).trans hP.2) (by omega) (by decide) rfl ?_
    refine w_bipush (n := 36) O dX4_readNumber_34 (v := (nI 48)) (by decide) rfl ?_
    refine w_isubN (n := 37) O dX4_readNumber_36 (by omega) rfl ?_
    refine w_putf (n := 40) (fs' := [.ref (gb_ad G 13), .int (nI (ln)), .int (nI (pl)), .int (nI 3), .int (nI (sa)), .int (nI (((bs (sa)) - 48)))]) O 5 dX4_readNumber_37 (by omega) (va_up_self _ _ _) rfl (by decide) uX4 uf_X4_28 tyX4 tyX4_ok nmX4 rfl rfl rfl (Nat.le_of_ble_eq_true rfl) rfl rfl ?_
    refine w_iload_n (n := 41) O dX4_readNumber_40 rfl rfl rfl ?_
    refine w_iconst (n := 42) O dX4_readNumber_41 (v := (nI 2)) (by decide) rfl ?_
    refine w_icmp_neN (n := 45) (tgt := 71) O dX4_readNumber_42 (by omega) (by omega) (by decide) rfl (fun c_3 => ?_) (fun c_3 => ?_)
    · skip
      refine w_vret O dX4_readNumber_71 ?_
      have e1 : (if pl - sa ≤ 2 then 3 else 0) = 3 := if_pos (by omega)
      have e2 : numV bs sa pl = ((bs (sa)) - 48) := by unfold numV; rw [if_neg (by omega)]
      rw [e1, e2] at hQ
      exact hQ _ ⟨(va_up_self _ _ _), ((va_up_ne _ _ (by decide)).trans ((va_up_ne _ _ (by decide)).trans hP.2))⟩ ((sm.rf.up (by omega) (by omega)).up (by omega) (by omega))
    · skip
      have hb2 := hdg (sa + 1) (by omega) (by omega)
      have hb3 := hbs (sa + 1) (by omega)
      refine w_aload_n (n := 46) O dX4_readNumber_45 rfl rfl rfl ?_
      refine w_bipush (n := 48) O dX4_readNumber_46 (v := (nI 10)) (by decide) rfl ?_
      refine w_aload_n (n := 49) O dX4_readNumber_48 rfl rfl rfl ?_
      refine w_getf (n := 52) O 5 dX4_readNumber_49 (by omega) (va_up_self _ _ _) rfl (by decide) uX4 uf_X4_28 rfl rfl ?_
      refine w_imulN (n := 53) O dX4_readNumber_52 rfl ?_
      refine w_aload_n (n := 54) O dX4_readNumber_53 rfl rfl rfl ?_
      refine w_getf (n := 57) O 0 dX4_readNumber_54 (by omega) (va_up_self _ _ _) rfl (by decide) uX4 uf_X4_9 rfl rfl ?_
      refine w_aload_n (n := 58) O dX4_readNumber_57 rfl rfl rfl ?_
      refine w_getf (n := 61) O 4 dX4_readNumber_58 (by omega) (va_up_self _ _ _) rfl (by decide) uX4 uf_X4_25 rfl rfl ?_
      refine w_iconst (n := 62) O dX4_readNumber_61 (v := (nI 1)) (by decide) rfl ?_
      refine w_iaddN (n := 63) O dX4_readNumber_62 rfl ?_
      refine w_ialdN (n := 64) O dX4_readNumber_63 hW.2.1 (by omega) ((va_up_ne _ _ (by decide)).trans ((va_up_ne _ _ (by decide)).trans hP.2)) (by omega) (by decide) rfl ?_
      refine w_iaddN (n := 65) O dX4_readNumber_64 rfl ?_
      refine w_bipush (n := 67) O dX4_readNumber_65 (v := (nI 48)) (by decide) rfl ?_
      refine w_isubN (n := 68) O dX4_readNumber_67 (by omega) rfl ?_
      refine w_putf (n := 71) (fs' := [.ref (gb_ad G 13), .int (nI (ln)), .int (nI (pl)), .int (nI 3), .int (nI (sa)), .int (nI ((((10 * ((bs (sa)) - 48)) + (bs ((sa + 1)))) - 48)))]) O 5 dX4_readNumber_68 (by omega) (va_up_self _ _ _) rfl (by decide) uX4 uf_X4_28 tyX4 tyX4_ok nmX4 rfl rfl rfl (Nat.le_of_ble_eq_true rfl) rfl rfl ?_
      refine w_vret O dX4_readNumber_71 ?_
      have e1 : (if pl - sa ≤ 2 then 3 else 0) = 3 := if_pos (by omega)
      have e2 : numV bs sa pl = (((10 * ((bs (sa)) - 48)) + (bs ((sa + 1)))) - 48) := by unfold numV; rw [if_pos (by omega)]
      rw [e1, e2] at hQ
      exact hQ _ ⟨(va_up_self _ _ _), ((va_up_ne _ _ (by decide)).trans ((va_up_ne _ _ (by decide)).trans ((va_up_ne _ _ (by decide)).trans hP.2)))⟩ (((sm.rf.up (by omega) (by omega)).up (by omega) (by omega)).up (by omega) (by omega))
set_option maxRecDepth 100000 in
set_option maxHeartbeats 4000000 in
theorem f_X4_readSign {G : gb_G} (hW : gW G) {Q : Option Value → gb_M → Prop} {mM : gb_M} {bs : Nat → Nat} {ln pl so sa nu : Nat} (hP : isP G mM bs ln pl so sa nu) (hln : ln ≤ 160) (hbs : ∀ k, k < ln → bs k ≤ 127) (hpl : pl ≤ ln) (hp2 : pl < ln)  (hQ : ∀ M', isP G M' bs ln (pl + 1) (if bs pl = 59 then 4 else 0) sa nu → sm mM M' 12 13 → Q none M') : Fn G 0 yX4_readSign cX4_readSign 1 none [.ref (gb_ad G 12)] mM Q := by
  have hN := hW.2.2.1
  refine Fn.of hW.1 [(0, .ref (gb_ad G 12))] (by decide) (Nat.le_of_ble_eq_true rfl) rfl ?_
  intro X O
  have hb1 := hbs pl (by omega)
  refine w_aload_n (n := 1) O dX4_readSign_0 rfl rfl rfl ?_
  refine w_aload_n (n := 2) O dX4_readSign_1 rfl rfl rfl ?_
  refine w_getf (n := 5) O 0 dX4_readSign_2 (by omega) hP.1 rfl (by decide) uX4 uf_X4_9 rfl rfl ?_
  refine w_aload_n (n := 6) O dX4_readSign_5 rfl rfl rfl ?_
  refine w_getf (n := 9) O 2 dX4_readSign_6 (by omega) hP.1 rfl (by decide) uX4 uf_X4_19 rfl rfl ?_
  refine w_ialdN (n := 10) O dX4_readSign_9 hW.2.1 (by omega) hP.2 (by omega) (by decide) rfl ?_
  refine w_bipush (n := 12) O dX4_readSign_10 (v := (nI 59)) (by decide) rfl ?_
  refine w_icmp_neN (n := 15) (tgt := 19) O dX4_readSign_12 (by omega) (by omega) (by decide) rfl (fun c_1 => ?_) (fun c_1 => ?_)
  · skip
    refine w_iconst (n := 20) O dX4_readSign_19 (v := (nI 0)) (by decide) rfl ?_
    refine w_putf (n := 23) (fs' := [.ref (gb_ad G 13), .int (nI (ln)), .int (nI (pl)), .int (nI 0), .int (nI (sa)), .int (nI (nu))]) O 3 dX4_readSign_20 (by omega) hP.1 rfl (by decide) uX4 uf_X4_22 tyX4 tyX4_ok nmX4 rfl rfl rfl (Nat.le_of_ble_eq_true rfl) rfl rfl ?_
    refine w_aload_n (n := 24) O dX4_readSign_23 rfl rfl rfl ?_
    refine w_dup (n := 25) O dX4_readSign_24 rfl rfl ?_
    refine w_getf (n := 28) O 2 dX4_readSign_25 (by omega) (va_up_self _ _ _) rfl (by decide) uX4 uf_X4_19 rfl rfl ?_
    refine w_iconst (n := 29) O dX4_readSign_28 (v := (nI 1)) (by decide) rfl ?_
    refine w_iaddN (n := 30) O dX4_readSign_29 rfl ?_
    refine w_putf (n := 33) (fs' := [.ref (gb_ad G 13), .int (nI (ln)), .int (nI ((pl + 1))), .int (nI 0), .int (nI (sa)), .int (nI (nu))]) O 2 dX4_readSign_30 (by omega) (va_up_self _ _ _) rfl (by decide) uX4 uf_X4_19 tyX4 tyX4_ok nmX4 rfl rfl rfl (Nat.le_of_ble_eq_true rfl) rfl rfl ?_
    refine w_vret O dX4_readSign_33 ?_
    have e1 : (if bs pl = 59 then 4 else 0) = 0 := if_neg (by omega)
    rw [e1] at hQ
    exact hQ _ ⟨(va_up_self _ _ _), ((va_up_ne _ _ (by decide)).trans ((va_up_ne _ _ (by decide)).trans hP.2))⟩ ((sm.rf.up (by omega) (by omega)).up (by omega) (by omega))
  · skip
    refine w_iconst (n := 16) O dX4_readSign_15 (v := (nI 4)) (by decide) rfl ?_
    refine w_goto (tgt := 20) O dX4_readSign_16 (by decide) ?_
    refine w_putf (n := 23) (fs' := [.ref (gb_ad G 13), .int (nI (ln)), .int (nI (pl)), .int (nI 4), .int (nI (sa)), .int (nI (nu))]) O 3 dX4_readSign_20 (by omega) hP.1 rfl (by decide) uX4 uf_X4_22 tyX4 tyX4_ok nmX4 rfl rfl rfl (Nat.le_of_ble_eq_true rfl) rfl rfl ?_
    refine w_aload_n (n := 24) O dX4_readSign_23 rfl rfl rfl ?_
    refine w_dup (n := 25) O dX4_readSign_24 rfl rfl ?_
    refine w_getf (n := 28) O 2 dX4_readSign_25 (by omega) (va_up_self _ _ _) rfl (by decide) uX4 uf_X4_19 rfl rfl ?_
    refine w_iconst (n := 29) O dX4_readSign_28 (v := (nI 1)) (by decide) rfl ?_
    refine w_iaddN (n := 30) O dX4_readSign_29 rfl ?_
    refine w_putf (n := 33) (fs' := [.ref (gb_ad G 13), .int (nI (ln)), .int (nI ((pl + 1))), .int (nI 4), .int (nI (sa)), .int (nI (nu))]) O 2 dX4_readSign_30 (by omega) (va_up_self _ _ _) rfl (by decide) uX4 uf_X4_19 tyX4 tyX4_ok nmX4 rfl rfl rfl (Nat.le_of_ble_eq_true rfl) rfl rfl ?_
    refine w_vret O dX4_readSign_33 ?_
    have e1 : (if bs pl = 59 then 4 else 0) = 4 := if_pos (by omega)
    rw [e1] at hQ
    exact hQ _ ⟨(va_up_self _ _ _), ((va_up_ne _ _ (by decide)).trans ((va_up_ne _ _ (by decide)).trans hP.2))⟩ ((sm.rf.up (by omega) (by omega)).up (by omega) (by omega))
set_option maxRecDepth 100000 in
set_option maxHeartbeats 4000000 in
theorem f_X4_readToken {G : gb_G} (hW : gW G) {Q : Option Value → gb_M → Prop} {mM : gb_M} {bs : Nat → Nat} {ln pl so sa nu : Nat} (hP : isP G mM bs ln pl so sa nu) (hln : ln ≤ 160) (hbs : ∀ k, k < ln → bs k ≤ 127) (hpl : pl ≤ ln) (hsa : sa ≤ 160)  (hQ : ∀ M', isP G M' bs ln (tkE bs ln pl) (tkS bs ln pl) (tkB bs ln pl) (tkU bs ln pl nu) → sm mM M' 12 13 → Q none M') : Fn G 1 yX4_readToken cX4_readToken 1 none [.ref (gb_ad G 12)] mM Q := by
  have hN := hW.2.2.1
  refine Fn.of hW.1 [(0, .ref (gb_ad G 12))] (by decide) (Nat.le_of_ble_eq_true rfl) rfl ?_
  intro X O
  refine w_aload_n (n := 1) O dX4_readToken_0 rfl rfl rfl ?_
  refine w_bipush (n := 3) O dX4_readToken_1 (v := (nI 32)) (by decide) rfl ?_
  refine w_bipush (n := 5) O dX4_readToken_3 (v := (nI 32)) (by decide) rfl ?_
  refine w_cV (n := 8) (ro := some (.int (bI (decide (sa < rn bs ln 32 32 pl))))) (R := fun mM' => isP G mM' bs ln (rn bs ln 32 32 pl) so sa nu ∧ sm mM mM' 12 13) (st := []) (st1 := [.int (bI (decide (sa < rn bs ln 32 32 pl)))]) (As := [.int (nI 32), .int (nI 32)]) (b := 12) O dX4_readToken_5 ul_X4_31 um_X4_takeRun (f_X4_takeRun hW ⟨hP.1, hP.2⟩ hln hbs (by omega) (by omega) (by omega) (by omega) (fun M' h1 h2 => ⟨rfl, h1, h2⟩)) rfl (by omega) hP.1 rfl rfl rfl rfl (by decide) (Nat.le_of_ble_eq_true rfl) rfl (fun mhM_3 hM_3 => ?_)
  obtain ⟨hP_1, hs_2⟩ := hM_3
  refine w_pop (n := 9) O dX4_readToken_8 rfl rfl ?_
  have hb1 : tkB bs ln pl ≤ ln := tkB_le hpl
  have hsp160 : tkB bs ln pl ≤ 160 := by omega
  refine w_aload_n (n := 10) O dX4_readToken_9 rfl rfl rfl ?_
  refine w_aload_n (n := 11) O dX4_readToken_10 rfl rfl rfl ?_
  refine w_getf (n := 14) O 2 dX4_readToken_11 (by omega) hP_1.1 rfl (by decide) uX4 uf_X4_19 rfl rfl ?_
  refine w_putf (n := 17) (fs' := [.ref (gb_ad G 13), .int (nI (ln)), .int (nI (tkB bs ln pl)), .int (nI (so)), .int (nI (tkB bs ln pl)), .int (nI (nu))]) O 4 dX4_readToken_14 (by omega) hP_1.1 rfl (by decide) uX4 uf_X4_25 tyX4 tyX4_ok nmX4 rfl rfl rfl (Nat.le_of_ble_eq_true rfl) rfl rfl ?_
  refine w_aload_n (n := 18) O dX4_readToken_17 rfl rfl rfl ?_
  refine w_getf (n := 21) O 2 dX4_readToken_18 (by omega) (va_up_self _ _ _) rfl (by decide) uX4 uf_X4_19 rfl rfl ?_
  refine w_aload_n (n := 22) O dX4_readToken_21 rfl rfl rfl ?_
  refine w_getf (n := 25) O 1 dX4_readToken_22 (by omega) (va_up_self _ _ _) rfl (by decide) uX4 uf_X4_15 rfl rfl ?_
  refine w_icmp_ltN (n := 28) (tgt := 36) O dX4_readToken_25 (by omega) (by omega) (by decide) rfl (fun c_4 => ?_) (fun c_4 => ?_)
  · skip
    refine w_aload_n (n := 37) O dX4_readToken_36 rfl rfl rfl ?_
    refine w_bipush (n := 39) O dX4_readToken_37 (v := (nI 97)) (by decide) rfl ?_
    refine w_bipush (n := 41) O dX4_readToken_39 (v := (nI 122)) (by decide) rfl ?_
    refine w_cV (n := 44) (ro := some (.int (bI (decide (tkB bs ln pl < rn bs ln 97 122 (tkB bs ln pl)))))) (R := fun mM' => isP G mM' bs ln (rn bs ln 97 122 (tkB bs ln pl)) so (tkB bs ln pl) nu ∧ sm (va_up mhM_3 (12) (.inr (4, [.ref (gb_ad G 13), .int (nI (ln)), .int (nI (tkB bs ln pl)), .int (nI (so)), .int (nI (tkB bs ln pl)), .int (nI (nu))]))) mM' 12 13) (st := []) (st1 := [.int (bI (decide (tkB bs ln pl < rn bs ln 97 122 (tkB bs ln pl))))]) (As := [.int (nI 97), .int (nI 122)]) (b := 12) O dX4_readToken_41 ul_X4_31 um_X4_takeRun (f_X4_takeRun hW ⟨(va_up_self _ _ _), ((va_up_ne _ _ (by decide)).trans hP_1.2)⟩ hln hbs (by omega) (by omega) (by omega) (by omega) (fun M' h1 h2 => ⟨rfl, h1, h2⟩)) rfl (by omega) (va_up_self _ _ _) rfl rfl rfl rfl (by decide) (Nat.le_of_ble_eq_true rfl) rfl (fun mhM_7 hM_7 => ?_)
    obtain ⟨hP_5, hs_6⟩ := hM_7
    have hn1 := rn_le (bs := bs) (lo := 97) (hi := 122) hb1
    have hn2 := rn_ge bs ln 97 122 (tkB bs ln pl)
    refine w_if_eqB (n := 47) (tgt := 55) O dX4_readToken_44 (by decide) rfl (fun c_8 => ?_) (fun c_8 => ?_)
    · skip
      have hnn := of_decide_eq_false c_8
      have hne : rn bs ln 97 122 (tkB bs ln pl) = tkB bs ln pl := by omega
      have hP_9 := hP_5.1
      rw [hne] at hP_9
      refine w_aload_n (n := 56) O dX4_readToken_55 rfl rfl rfl ?_
      refine w_bipush (n := 58) O dX4_readToken_56 (v := (nI 48)) (by decide) rfl ?_
      refine w_bipush (n := 60) O dX4_readToken_58 (v := (nI 57)) (by decide) rfl ?_
      refine w_cV (n := 63) (ro := some (.int (bI (decide (tkB bs ln pl < rn bs ln 48 57 (tkB bs ln pl)))))) (R := fun mM' => isP G mM' bs ln (rn bs ln 48 57 (tkB bs ln pl)) so (tkB bs ln pl) nu ∧ sm mhM_7 mM' 12 13) (st := []) (st1 := [.int (bI (decide (tkB bs ln pl < rn bs ln 48 57 (tkB bs ln pl))))]) (As := [.int (nI 48), .int (nI 57)]) (b := 12) O dX4_readToken_60 ul_X4_31 um_X4_takeRun (f_X4_takeRun hW ⟨hP_9, hP_5.2⟩ hln hbs (by omega) (by omega) (by omega) (by omega) (fun M' h1 h2 => ⟨rfl, h1, h2⟩)) rfl (by omega) hP_9 rfl rfl rfl rfl (by decide) (Nat.le_of_ble_eq_true rfl) rfl (fun mhM_12 hM_12 => ?_)
      obtain ⟨hP_10, hs_11⟩ := hM_12
      have hd1 := rn_le (bs := bs) (lo := 48) (hi := 57) hb1
      have hd2 := rn_ge bs ln 48 57 (tkB bs ln pl)
      refine w_if_eqB (n := 66) (tgt := 73) O dX4_readToken_63 (by decide) rfl (fun c_13 => ?_) (fun c_13 => ?_)
      · skip
        have hdd := of_decide_eq_false c_13
        have hde : rn bs ln 48 57 (tkB bs ln pl) = tkB bs ln pl := by omega
        have hP_14 := hP_10.1
        rw [hde] at hP_14
        refine w_aload_n (n := 74) O dX4_readToken_73 rfl rfl rfl ?_
        refine w_cV (n := 77) (ro := none) (R := fun mM' => isP G mM' bs ln (tkB bs ln pl + 1) (if bs (tkB bs ln pl) = 59 then 4 else 0) (tkB bs ln pl) nu ∧ sm mhM_12 mM' 12 13) (st := []) (st1 := []) (As := []) (b := 12) O dX4_readToken_74 ul_X4_38 um_X4_readSign (f_X4_readSign hW ⟨hP_14, hP_10.2⟩ hln hbs (by omega) (by omega) (fun M' h1 h2 => ⟨rfl, h1, h2⟩)) rfl (by omega) hP_14 rfl rfl rfl rfl (by decide) (Nat.le_of_ble_eq_true rfl) rfl (fun mhM_17 hM_17 => ?_)
        obtain ⟨hP_15, hs_16⟩ := hM_17
        refine w_vret O dX4_readToken_77 ?_
        have e0 : tkE bs ln pl = (tkB bs ln pl + 1) := by unfold tkE tkEb; rw [if_neg (by omega), if_neg hnn, if_neg hdd]
        have e1 : tkS bs ln pl = (if bs (tkB bs ln pl) = 59 then 4 else 0) := by unfold tkS tkSb; rw [if_neg (by omega), if_neg hnn, if_neg hdd]
        have e2 : tkU bs ln pl nu = nu := by unfold tkU tkUb; rw [if_neg (by omega), if_neg hnn, if_neg hdd]
        rw [e0, e1, e2] at hQ
        exact hQ _ ⟨hP_15.1, hP_15.2⟩ (((((sm.rf.tr (hs_2.mono (by omega) (by omega))).up (by omega) (by omega)).tr (hs_6.mono (by omega) (by omega))).tr (hs_11.mono (by omega) (by omega))).tr (hs_16.mono (by omega) (by omega)))
      · skip
        have hdd := of_decide_eq_true c_13
        have hdg : ∀ q, (tkB bs ln pl) ≤ q → q < rn bs ln 48 57 (tkB bs ln pl) → 48 ≤ bs q := fun q h1 h2 => (rn_in h1 h2).1
        refine w_aload_n (n := 67) O dX4_readToken_66 rfl rfl rfl ?_
        refine w_cV (n := 70) (ro := none) (R := fun mM' => isP G mM' bs ln (rn bs ln 48 57 (tkB bs ln pl)) (if (rn bs ln 48 57 (tkB bs ln pl)) - (tkB bs ln pl) ≤ 2 then 3 else 0) (tkB bs ln pl) (numV bs (tkB bs ln pl) (rn bs ln 48 57 (tkB bs ln pl))) ∧ sm mhM_12 mM' 12 13) (st := []) (st1 := []) (As := []) (b := 12) O dX4_readToken_67 ul_X4_35 um_X4_readNumber (f_X4_readNumber hW ⟨hP_10.1, hP_10.2⟩ hln hbs (by omega) (by omega) hdg (fun M' h1 h2 => ⟨rfl, h1, h2⟩)) rfl (by omega) hP_10.1 rfl rfl rfl rfl (by decide) (Nat.le_of_ble_eq_true rfl) rfl (fun mhM_20 hM_20 => ?_)
        obtain ⟨hP_18, hs_19⟩ := hM_20
        refine w_goto (tgt := 77) O dX4_readToken_70 (by decide) ?_
        refine w_vret O dX4_readToken_77 ?_
        have e0 : tkE bs ln pl = (rn bs ln 48 57 (tkB bs ln pl)) := by unfold tkE tkEb; rw [if_neg (by omega), if_neg hnn, if_pos hdd]
        have e1 : tkS bs ln pl = (if (rn bs ln 48 57 (tkB bs ln pl)) - (tkB bs ln pl) ≤ 2 then 3 else 0) := by unfold tkS tkSb; rw [if_neg (by omega), if_neg hnn, if_pos hdd]
        have e2 : tkU bs ln pl nu = (numV bs (tkB bs ln pl) (rn bs ln 48 57 (tkB bs ln pl))) := by unfold tkU tkUb; rw [if_neg (by omega), if_neg hnn, if_pos hdd]
        rw [e0, e1, e2] at hQ
        exact hQ _ ⟨hP_18.1, hP_18.2⟩ (((((sm.rf.tr (hs_2.mono (by omega) (by omega))).up (by omega) (by omega)).tr (hs_6.mono (by omega) (by omega))).tr (hs_11.mono (by omega) (by omega))).tr (hs_19.mono (by omega) (by omega)))
    · skip
      refine w_aload_n (n := 48) O dX4_readToken_47 rfl rfl rfl ?_
      refine w_iconst (n := 49) O dX4_readToken_48 (v := (nI 2)) (by decide) rfl ?_
      refine w_putf (n := 52) (fs' := [.ref (gb_ad G 13), .int (nI (ln)), .int (nI (rn bs ln 97 122 (tkB bs ln pl))), .int (nI 2), .int (nI (tkB bs ln pl)), .int (nI (nu))]) O 3 dX4_readToken_49 (by omega) hP_5.1 rfl (by decide) uX4 uf_X4_22 tyX4 tyX4_ok nmX4 rfl rfl rfl (Nat.le_of_ble_eq_true rfl) rfl rfl ?_
      refine w_goto (tgt := 77) O dX4_readToken_52 (by decide) ?_
      refine w_vret O dX4_readToken_77 ?_
      have e0 : tkE bs ln pl = (rn bs ln 97 122 (tkB bs ln pl)) := by unfold tkE tkEb; rw [if_neg (by omega), if_pos (of_decide_eq_true c_8)]
      have e1 : tkS bs ln pl = 2 := by unfold tkS tkSb; rw [if_neg (by omega), if_pos (of_decide_eq_true c_8)]
      have e2 : tkU bs ln pl nu = nu := by unfold tkU tkUb; rw [if_neg (by omega), if_pos (of_decide_eq_true c_8)]
      rw [e0, e1, e2] at hQ
      exact hQ _ ⟨(va_up_self _ _ _), ((va_up_ne _ _ (by decide)).trans hP_5.2)⟩ ((((sm.rf.tr (hs_2.mono (by omega) (by omega))).up (by omega) (by omega)).tr (hs_6.mono (by omega) (by omega))).up (by omega) (by omega))
  · skip
    refine w_aload_n (n := 29) O dX4_readToken_28 rfl rfl rfl ?_
    refine w_iconst (n := 30) O dX4_readToken_29 (v := (nI 1)) (by decide) rfl ?_
    refine w_putf (n := 33) (fs' := [.ref (gb_ad G 13), .int (nI (ln)), .int (nI (tkB bs ln pl)), .int (nI 1), .int (nI (tkB bs ln pl)), .int (nI (nu))]) O 3 dX4_readToken_30 (by omega) (va_up_self _ _ _) rfl (by decide) uX4 uf_X4_22 tyX4 tyX4_ok nmX4 rfl rfl rfl (Nat.le_of_ble_eq_true rfl) rfl rfl ?_
    refine w_goto (tgt := 77) O dX4_readToken_33 (by decide) ?_
    refine w_vret O dX4_readToken_77 ?_
    have e0 : tkE bs ln pl = (tkB bs ln pl) := by unfold tkE tkEb; rw [if_pos (by omega)]
    have e1 : tkS bs ln pl = 1 := by unfold tkS tkSb; rw [if_pos (by omega)]
    have e2 : tkU bs ln pl nu = nu := by unfold tkU tkUb; rw [if_pos (by omega)]
    rw [e0, e1, e2] at hQ
    exact hQ _ ⟨(va_up_self _ _ _), ((va_up_ne _ _ (by decide)).trans ((va_up_ne _ _ (by decide)).trans hP_1.2))⟩ (((sm.rf.tr (hs_2.mono (by omega) (by omega))).up (by omega) (by omega)).up (by omega) (by omega))
set_option maxRecDepth 100000 in
set_option maxHeartbeats 4000000 in
theorem f_X4_isName {G : gb_G} (hW : gW G) {Q : Option Value → gb_M → Prop} {mM : gb_M} {bs : Nat → Nat} {ln pl so sa nu : Nat} (hP : isP G mM bs ln pl so sa nu) (hln : ln ≤ 160) (hbs : ∀ k, k < ln → bs k ≤ 127) (hpl : pl ≤ ln) (hsp : sa ≤ pl) (hso : so ≤ 4) {i : Nat} (hi : i < 12)  (hQ : Q (some (.int (bI (tkIs bs so sa pl i)))) mM) : Fn G 4 yX4_isName cX4_isName 3 (some .boolean) [.ref (gb_ad G 12), .ref (gb_ad G (63 + i))] mM Q := by
  have hN := hW.2.2.1
  refine Fn.of hW.1 [(0, .ref (gb_ad G 12)), (1, .ref (gb_ad G (63 + i)))] (by decide) (Nat.le_of_ble_eq_true rfl) rfl ?_
  intro X O
  have hL6 := tL_lt i hi
  refine w_aload_n (n := 1) O dX4_isName_0 rfl rfl rfl ?_
  refine w_getf (n := 4) O 3 dX4_isName_1 (by omega) hP.1 rfl (by decide) uX4 uf_X4_22 rfl rfl ?_
  refine w_iconst (n := 5) O dX4_isName_4 (v := (nI 2)) (by decide) rfl ?_
  refine w_icmp_neN (n := 8) (tgt := 24) O dX4_isName_5 (by omega) (by omega) (by decide) rfl (fun c_1 => ?_) (fun c_1 => ?_)
  · skip
    refine w_iconst (n := 25) O dX4_isName_24 (v := (nI 0)) (by decide) rfl ?_
    refine w_zret O dX4_isName_25 (by decide) ?_
    have e : tkIs bs so sa pl i = false := by unfold tkIs; rw [decide_eq_false c_1, Bool.false_and]; rfl
    rw [e] at hQ
    exact hQ
  · skip
    refine w_aload_n (n := 9) O dX4_isName_8 rfl rfl rfl ?_
    refine w_getf (n := 12) O 2 dX4_isName_9 (by omega) hP.1 rfl (by decide) uX4 uf_X4_19 rfl rfl ?_
    refine w_aload_n (n := 13) O dX4_isName_12 rfl rfl rfl ?_
    refine w_getf (n := 16) O 4 dX4_isName_13 (by omega) hP.1 rfl (by decide) uX4 uf_X4_25 rfl rfl ?_
    refine w_isubN (n := 17) O dX4_isName_16 (by omega) rfl ?_
    refine w_aload_n (n := 18) O dX4_isName_17 rfl rfl rfl ?_
    refine w_cT (n := 21) (ro := some (.int (nI (tL i)))) (R := fun mM' => mM = mM') (st := [.int (nI ((pl - sa)))]) (st1 := [.int (nI (tL i)), .int (nI ((pl - sa)))]) (As := []) O hW hi dX4_isName_18 ul_X4_41 um_J0_length_8abf5 (f_J0_length hW hi ⟨rfl, rfl⟩) rfl rfl rfl rfl (by decide) (Nat.le_of_ble_eq_true rfl) rfl (fun mhM_2 hM_2 => ?_)
    subst hM_2
    refine w_icmp_eqN (n := 24) (tgt := 26) O dX4_isName_21 (by omega) (by omega) (by decide) rfl (fun c_3 => ?_) (fun c_3 => ?_)
    · skip
      refine w_iconst (n := 27) O dX4_isName_26 (v := (nI 0)) (by decide) rfl ?_
      refine w_istore_n (n := 28) (lv' := [(2, .int (nI 0)), (0, .ref (gb_ad G 12)), (1, .ref (gb_ad G (63 + i)))]) O dX4_isName_27 rfl (by decide) rfl rfl ?_
      have IS : ∀ (k : Nat) (j : Nat), tL i - j = k → j ≤ tL i → nmB bs sa i j = true → Wm G X 3 Q 28 [(0, .ref (gb_ad G 12)), (1, .ref (gb_ad G (63 + i))), (2, .int (nI (j)))] [] mM := by
        intro k
        induction k using Nat.strongRecOn with
        | ind k ih_IS =>
          intro j hk hj hnm
          refine w_iload_n (n := 29) O dX4_isName_28 rfl rfl rfl ?_
          refine w_aload_n (n := 30) O dX4_isName_29 rfl rfl rfl ?_
          refine w_cT (n := 33) (ro := some (.int (nI (tL i)))) (R := fun mM' => mM = mM') (st := [.int (nI (j))]) (st1 := [.int (nI (tL i)), .int (nI (j))]) (As := []) O hW hi dX4_isName_30 ul_X4_41 um_J0_length_8abf5 (f_J0_length hW hi ⟨rfl, rfl⟩) rfl rfl rfl rfl (by decide) (Nat.le_of_ble_eq_true rfl) rfl (fun mhM_4 hM_4 => ?_)
          subst hM_4
          refine w_icmp_geN (n := 36) (tgt := 63) O dX4_isName_33 (by omega) (by omega) (by decide) rfl (fun c_5 => ?_) (fun c_5 => ?_)
          · skip
            refine w_iconst (n := 64) O dX4_isName_63 (v := (nI 1)) (by decide) rfl ?_
            refine w_zret O dX4_isName_64 (by decide) ?_
            have e : tkIs bs so sa pl i = true := by unfold tkIs; rw [decide_eq_true c_1, decide_eq_true c_3, show tL i = j by omega, hnm]; rfl
            rw [e] at hQ
            exact hQ
          · skip
            have hb1 := hbs (sa + j) (by omega)
            have hc1 := tC_lt i hi j (by omega)
            refine w_aload_n (n := 37) O dX4_isName_36 rfl rfl rfl ?_
            refine w_getf (n := 40) O 0 dX4_isName_37 (by omega) hP.1 rfl (by decide) uX4 uf_X4_9 rfl rfl ?_
            refine w_aload_n (n := 41) O dX4_isName_40 rfl rfl rfl ?_
            refine w_getf (n := 44) O 4 dX4_isName_41 (by omega) hP.1 rfl (by decide) uX4 uf_X4_25 rfl rfl ?_
            refine w_iload_n (n := 45) O dX4_isName_44 rfl rfl rfl ?_
            refine w_iaddN (n := 46) O dX4_isName_45 rfl ?_
            refine w_ialdN (n := 47) O dX4_isName_46 hW.2.1 (by omega) hP.2 (by omega) (by decide) rfl ?_
            refine w_aload_n (n := 48) O dX4_isName_47 rfl rfl rfl ?_
            refine w_iload_n (n := 49) O dX4_isName_48 rfl rfl rfl ?_
            refine w_cT (n := 52) (ro := some (.int (nI (tC i j)))) (R := fun mM' => mM = mM') (st := [.int (nI (bs ((sa + j))))]) (st1 := [.int (nI (tC i j)), .int (nI (bs ((sa + j))))]) (As := [.int (nI (j))]) O hW hi dX4_isName_49 ul_X4_46 um_J0_charAt_5068e (f_J0_charAt hW hi (by omega) ⟨rfl, rfl⟩) rfl rfl rfl rfl (by decide) (Nat.le_of_ble_eq_true rfl) rfl (fun mhM_6 hM_6 => ?_)
            subst hM_6
            refine w_icmp_eqN (n := 55) (tgt := 57) O dX4_isName_52 (by omega) (by omega) (by decide) rfl (fun c_7 => ?_) (fun c_7 => ?_)
            · skip
              refine w_iincN (n := 60) (lv' := [(2, .int (nI (j + 1))), (0, .ref (gb_ad G 12)), (1, .ref (gb_ad G (63 + i)))]) O dX4_isName_57 rfl (by decide) rfl rfl ?_
              refine w_goto (tgt := 28) O dX4_isName_60 (by decide) ?_
              refine w_lv (lv2 := [(0, .ref (gb_ad G 12)), (1, .ref (gb_ad G (63 + i))), (2, .int (nI (j + 1)))]) [1, 2, 0] rfl ?_
              exact ih_IS _ (by omega) (j + 1) rfl (by omega) (by simp only [nmB]; rw [hnm, decide_eq_true c_7]; rfl)
            · skip
              refine w_iconst (n := 56) O dX4_isName_55 (v := (nI 0)) (by decide) rfl ?_
              refine w_zret O dX4_isName_56 (by decide) ?_
              have e : tkIs bs so sa pl i = false := by unfold tkIs; rw [nmB_f (k := j) (by omega) c_7, Bool.and_false]
              rw [e] at hQ
              exact hQ
      refine w_lv (lv2 := [(0, .ref (gb_ad G 12)), (1, .ref (gb_ad G (63 + i))), (2, .int (nI 0))]) [1, 2, 0] rfl ?_
      exact IS _ 0 rfl (Nat.zero_le _) rfl
    · skip
      refine w_iconst (n := 25) O dX4_isName_24 (v := (nI 0)) (by decide) rfl ?_
      refine w_zret O dX4_isName_25 (by decide) ?_
      have e : tkIs bs so sa pl i = false := by unfold tkIs; rw [decide_eq_false c_3, Bool.and_false]; rfl
      rw [e] at hQ
      exact hQ
