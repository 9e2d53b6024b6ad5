theorem shl1 {g : Nat} (hg : g < 31) : nI 1 <<< (nI g &&& 31) = nI (2 ^ g) := by
  have h2 : 2 ^ g < 2 ^ 32 := Nat.pow_lt_pow_right (by decide) (by omega)
  rw [nI_shl hg (by omega), Nat.one_mul]
theorem sh_le (b g : Nat) : b / 2 ^ g ≤ b := Nat.div_le_self _ _
set_option maxRecDepth 100000 in
set_option maxHeartbeats 4000000 in
theorem f_X7_whole {G : gb_G} (hW : gW G) {Q : Option Value → gb_M → Prop} {mM : gb_M} {s : Nat → Nat} {T : Tw} {lo li : Nat} {to : Option Nat} {tm : Nat} (hV : isV G mM s T lo li to tm) (ok : okT T) {g : Nat} (hg : g < T.2.2.2.1)  (hQ : Q (some (.int (nI (tShare T g)))) mM) : Fn G 1 yX7_whole cX7_whole 6 (some .int) [.ref (gb_ad G 49), .int (nI (g))] mM Q := by
  obtain ⟨h50, hpg, x3, x4, x5, x6, x7, x9, x10, x11, x12, x13, x14, x15, x16, x24, x26, x31, h49⟩ := hV
  have hV : isV G mM s T lo li to tm := ⟨h50, hpg, x3, x4, x5, x6, x7, x9, x10, x11, x12, x13, x14, x15, x16, x24, x26, x31, h49⟩
  have hn4 := ok.1
  have hN := hW.2.2.1
  refine Fn.of hW.1 [(0, .ref (gb_ad G 49)), (1, .int (nI (g)))] (by decide) (Nat.le_of_ble_eq_true rfl) rfl ?_
  intro X O
  have ho := tOwes_le ok (show g < 4 by omega)
  have hb16 := pg_b16 hpg hn4
  refine w_iconst (n := 1) O dX7_whole_0 (v := (nI 0)) (by decide) rfl ?_
  refine w_istore_n (n := 2) (lv' := [(2, .int (nI 0)), (0, .ref (gb_ad G 49)), (1, .int (nI (g)))]) O dX7_whole_1 rfl (by decide) rfl rfl ?_
  refine w_iconst (n := 3) O dX7_whole_2 (v := (nI 1)) (by decide) rfl ?_
  refine w_istore_n (n := 4) (lv' := [(3, .int (nI 1)), (2, .int (nI 0)), (0, .ref (gb_ad G 49)), (1, .int (nI (g)))]) O dX7_whole_3 rfl (by decide) rfl rfl ?_
  refine w_iconst (n := 5) O dX7_whole_4 (v := (nI 0)) (by decide) rfl ?_
  refine w_istore (n := 7) (lv' := [(4, .int (nI 0)), (3, .int (nI 1)), (2, .int (nI 0)), (0, .ref (gb_ad G 49)), (1, .int (nI (g)))]) O dX7_whole_5 (by decide) rfl rfl ?_
  have LA : ∀ (k : Nat) (i c : Nat) (al : Bool), T.2.2.2.1 - i = k → i ≤ T.2.2.2.1 → c = sCnt (tAlk T g) i → al = sAll (tRue T g) i → Wm G X 6 Q 7 [(0, .ref (gb_ad G 49)), (1, .int (nI (g))), (2, .int (nI (c))), (3, .int (bI (al))), (4, .int (nI (i)))] [] mM := by
    intro k
    induction k using Nat.strongRecOn with
    | ind k ih_LA =>
      intro i c al hk hi hc ha
      have hcl := sCnt_le (tAlk T g) i
      refine w_iload (n := 9) O dX7_whole_7 rfl rfl ?_
      refine w_aload_n (n := 10) O dX7_whole_9 rfl rfl rfl ?_
      refine w_getf (n := 13) O 1 dX7_whole_10 (by omega) h49 rfl (by decide) uX7 uf_X7_136 rfl rfl ?_
      refine w_icmp_geN (n := 16) (tgt := 95) O dX7_whole_13 (by omega) (by omega) (by decide) rfl (fun c_1 => ?_) (fun c_1 => ?_)
      · skip
        refine w_iload_n (n := 96) O dX7_whole_95 rfl rfl rfl ?_
        refine w_iconst (n := 97) O dX7_whole_96 (v := (nI 1)) (by decide) rfl ?_
        refine w_icmp_leN (n := 100) (tgt := 116) O dX7_whole_97 (by omega) (by omega) (by decide) rfl (fun c_2 => ?_) (fun c_2 => ?_)
        · skip
          refine w_aload_n (n := 117) O dX7_whole_116 rfl rfl rfl ?_
          refine w_iload_n (n := 118) O dX7_whole_117 rfl rfl rfl ?_
          refine w_cV (n := 121) (ro := some (.int (nI (tOwes T g)))) (R := fun mM' => mM = mM') (st := []) (st1 := [.int (nI (tOwes T g))]) (As := [.int (nI (g))]) (b := 49) O dX7_whole_118 ul_X7_150 um_X7_owes (f_X7_owes (s := s) (T := T) (lo := lo) (li := li) (to := to) (tm := tm) hW hV ok (by omega) ⟨rfl, rfl⟩) rfl (by omega) h49 rfl rfl rfl rfl (by decide) (Nat.le_of_ble_eq_true rfl) rfl (fun mhM_3 hM_3 => ?_)
          subst hM_3
          refine w_iret O dX7_whole_121 ?_
          have en : T.2.2.2.1 = i := by omega
          have ek := tAlk_cnt (T := T) (g := g) T.2.2.2.1
          rw [if_pos hg, en, ← hc] at ek
          have e : tShare T g = tOwes T g := by unfold tShare tHalv; rw [en, ← ha]; rw [decide_eq_false (show ¬ 0 < sCnt (tOth T g) i by omega), Bool.and_false]; exact if_neg (by decide)
          rw [e] at hQ
          exact hQ
        · skip
          refine w_iload_n (n := 101) O dX7_whole_100 rfl rfl rfl ?_
          refine w_if_eqB (n := 104) (tgt := 116) O dX7_whole_101 (by decide) rfl (fun c_4 => ?_) (fun c_4 => ?_)
          · skip
            refine w_aload_n (n := 117) O dX7_whole_116 rfl rfl rfl ?_
            refine w_iload_n (n := 118) O dX7_whole_117 rfl rfl rfl ?_
            refine w_cV (n := 121) (ro := some (.int (nI (tOwes T g)))) (R := fun mM' => mM = mM') (st := []) (st1 := [.int (nI (tOwes T g))]) (As := [.int (nI (g))]) (b := 49) O dX7_whole_118 ul_X7_150 um_X7_owes (f_X7_owes (s := s) (T := T) (lo := lo) (li := li) (to := to) (tm := tm) hW hV ok (by omega) ⟨rfl, rfl⟩) rfl (by omega) h49 rfl rfl rfl rfl (by decide) (Nat.le_of_ble_eq_true rfl) rfl (fun mhM_5 hM_5 => ?_)
            subst hM_5
            refine w_iret O dX7_whole_121 ?_
            have en : T.2.2.2.1 = i := by omega
            have ek := tAlk_cnt (T := T) (g := g) T.2.2.2.1
            rw [if_pos hg, en, ← hc] at ek
            have e : tShare T g = tOwes T g := by unfold tShare tHalv; rw [en, ← ha]; rw [c_4, Bool.false_and]; exact if_neg (by decide)
            rw [e] at hQ
            exact hQ
          · skip
            refine w_aload_n (n := 105) O dX7_whole_104 rfl rfl rfl ?_
            refine w_iload_n (n := 106) O dX7_whole_105 rfl rfl rfl ?_
            refine w_cV (n := 109) (ro := some (.int (nI (tOwes T g)))) (R := fun mM' => mM = mM') (st := []) (st1 := [.int (nI (tOwes T g))]) (As := [.int (nI (g))]) (b := 49) O dX7_whole_106 ul_X7_150 um_X7_owes (f_X7_owes (s := s) (T := T) (lo := lo) (li := li) (to := to) (tm := tm) hW hV ok (by omega) ⟨rfl, rfl⟩) rfl (by omega) h49 rfl rfl rfl rfl (by decide) (Nat.le_of_ble_eq_true rfl) rfl (fun mhM_6 hM_6 => ?_)
            subst hM_6
            refine w_iconst (n := 110) O dX7_whole_109 (v := (nI 1)) (by decide) rfl ?_
            refine w_iaddN (n := 111) O dX7_whole_110 rfl ?_
            refine w_iconst (n := 112) O dX7_whole_111 (v := (nI 2)) (by decide) rfl ?_
            refine w_idivN (n := 113) O dX7_whole_112 (by omega) (by omega) (by omega) rfl ?_
            refine w_goto (tgt := 121) O dX7_whole_113 (by decide) ?_
            refine w_iret O dX7_whole_121 ?_
            have en : T.2.2.2.1 = i := by omega
            have ek := tAlk_cnt (T := T) (g := g) T.2.2.2.1
            rw [if_pos hg, en, ← hc] at ek
            have e : tShare T g = (((tOwes T g) + 1) / 2) := by unfold tShare tHalv; rw [en, ← ha]; rw [c_4, decide_eq_true (show 0 < sCnt (tOth T g) i by omega)]; exact if_pos rfl
            rw [e] at hQ
            exact hQ
      · skip
        have hk1 := ok.2.1 i (by omega)
        have hk2 := ok.2.1 g (by omega)
        have hsl := sh_le (s 20) i
        have hbt : (s 20 / 2 ^ i % 2 = 1) ↔ 0 < T.1 (i * 6 + 4) := by have := pg_hs hpg hn4 (show i < T.2.2.2.1 by omega); unfold hasB at this; simpa using this
        refine w_aload_n (n := 17) O dX7_whole_16 rfl rfl rfl ?_
        refine w_getf (n := 20) O 0 dX7_whole_17 (by omega) h49 rfl (by decide) uX7 uf_X7_7 rfl rfl ?_
        refine w_bipush (n := 22) O dX7_whole_20 (v := (nI 12)) (by decide) rfl ?_
        refine w_iload (n := 24) O dX7_whole_22 rfl rfl ?_
        refine w_iaddN (n := 25) O dX7_whole_24 rfl ?_
        refine w_ialdP (n := 26) (v := T.1 (i * 6 + 3)) O dX7_whole_25 hW.2.1 (by omega) h50 (by omega) (by decide) (by omega) (hpg.1 i (by omega)).2.2.2.1 rfl ?_
        refine w_aload_n (n := 27) O dX7_whole_26 rfl rfl rfl ?_
        refine w_getf (n := 30) O 0 dX7_whole_27 (by omega) h49 rfl (by decide) uX7 uf_X7_7 rfl rfl ?_
        refine w_bipush (n := 32) O dX7_whole_30 (v := (nI 12)) (by decide) rfl ?_
        refine w_iload_n (n := 33) O dX7_whole_32 rfl rfl rfl ?_
        refine w_iaddN (n := 34) O dX7_whole_33 rfl ?_
        refine w_ialdP (n := 35) (v := T.1 (g * 6 + 3)) O dX7_whole_34 hW.2.1 (by omega) h50 (by omega) (by decide) (by omega) (hpg.1 g (by omega)).2.2.2.1 rfl ?_
        refine w_icmp_neN (n := 38) (tgt := 42) O dX7_whole_35 (by omega) (by omega) (by decide) rfl (fun c_7 => ?_) (fun c_7 => ?_)
        · skip
          refine w_iconst (n := 43) O dX7_whole_42 (v := (nI 0)) (by decide) rfl ?_
          refine w_istore (n := 45) (lv' := [(5, .int (nI 0)), (0, .ref (gb_ad G 49)), (1, .int (nI (g))), (2, .int (nI (c))), (3, .int (bI (al))), (4, .int (nI (i)))]) O dX7_whole_43 (by decide) rfl rfl ?_
          refine w_iload_n (n := 46) O dX7_whole_45 rfl rfl rfl ?_
          refine w_iload (n := 48) O dX7_whole_46 rfl rfl ?_
          refine w_if_eqN (n := 51) (tgt := 55) O dX7_whole_48 (by omega) (by decide) rfl (fun c_8 => ?_) (fun c_8 => by omega)
          refine w_iconst (n := 56) O dX7_whole_55 (v := (nI 0)) (by decide) rfl ?_
          refine w_iaddN (n := 57) O dX7_whole_56 rfl ?_
          refine w_istore_n (n := 58) (lv' := [(2, .int (nI ((c + 0)))), (5, .int (nI 0)), (0, .ref (gb_ad G 49)), (1, .int (nI (g))), (3, .int (bI (al))), (4, .int (nI (i)))]) O dX7_whole_57 rfl (by decide) rfl rfl ?_
          refine w_iload_n (n := 59) O dX7_whole_58 rfl rfl rfl ?_
          refine w_if_eqB (n := 62) (tgt := 87) O dX7_whole_59 (by decide) rfl (fun c_9 => ?_) (fun c_9 => ?_)
          · skip
            refine w_iconst (n := 88) O dX7_whole_87 (v := (nI 0)) (by decide) rfl ?_
            refine w_istore_n (n := 89) (lv' := [(3, .int (nI 0)), (2, .int (nI ((c + 0)))), (5, .int (nI 0)), (0, .ref (gb_ad G 49)), (1, .int (nI (g))), (4, .int (nI (i)))]) O dX7_whole_88 rfl (by decide) rfl rfl ?_
            refine w_iincN (n := 92) (lv' := [(4, .int (nI (i + 1))), (3, .int (nI 0)), (2, .int (nI ((c + 0)))), (5, .int (nI 0)), (0, .ref (gb_ad G 49)), (1, .int (nI (g)))]) O dX7_whole_89 rfl (by decide) rfl rfl ?_
            refine w_goto (tgt := 7) O dX7_whole_92 (by decide) ?_
            refine w_lv (lv2 := [(0, .ref (gb_ad G 49)), (1, .int (nI (g))), (2, .int (nI ((c + 0)))), (3, .int (nI 0)), (4, .int (nI (i + 1)))]) [4, 5, 2, 1, 0] rfl ?_
            exact ih_LA _ (by omega) (i + 1) ((c + 0)) false rfl (by omega) (by rw [sCnt, ← hc]; unfold tAlk; rw [decide_eq_false c_7]; rfl) (by rw [sAll, ← ha, c_9]; rfl)
          · skip
            refine w_iload (n := 64) O dX7_whole_62 rfl rfl ?_
            refine w_if_eqN (n := 67) (tgt := 83) O dX7_whole_64 (by omega) (by decide) rfl (fun c_10 => ?_) (fun c_10 => by omega)
            refine w_iconst (n := 84) O dX7_whole_83 (v := (nI 1)) (by decide) rfl ?_
            refine w_goto (tgt := 88) O dX7_whole_84 (by decide) ?_
            refine w_istore_n (n := 89) (lv' := [(3, .int (nI 1)), (2, .int (nI ((c + 0)))), (5, .int (nI 0)), (0, .ref (gb_ad G 49)), (1, .int (nI (g))), (4, .int (nI (i)))]) O dX7_whole_88 rfl (by decide) rfl rfl ?_
            refine w_iincN (n := 92) (lv' := [(4, .int (nI (i + 1))), (3, .int (nI 1)), (2, .int (nI ((c + 0)))), (5, .int (nI 0)), (0, .ref (gb_ad G 49)), (1, .int (nI (g)))]) O dX7_whole_89 rfl (by decide) rfl rfl ?_
            refine w_goto (tgt := 7) O dX7_whole_92 (by decide) ?_
            refine w_lv (lv2 := [(0, .ref (gb_ad G 49)), (1, .int (nI (g))), (2, .int (nI ((c + 0)))), (3, .int (nI 1)), (4, .int (nI (i + 1)))]) [4, 5, 2, 1, 0] rfl ?_
            exact ih_LA _ (by omega) (i + 1) ((c + 0)) true rfl (by omega) (by rw [sCnt, ← hc]; unfold tAlk; rw [decide_eq_false c_7]; rfl) (by rw [sAll, ← ha, c_9]; unfold tRue; rw [decide_eq_false c_7]; rfl)
        · skip
          refine w_iconst (n := 39) O dX7_whole_38 (v := (nI 1)) (by decide) rfl ?_
          refine w_goto (tgt := 43) O dX7_whole_39 (by decide) ?_
          refine w_istore (n := 45) (lv' := [(5, .int (nI 1)), (0, .ref (gb_ad G 49)), (1, .int (nI (g))), (2, .int (nI (c))), (3, .int (bI (al))), (4, .int (nI (i)))]) O dX7_whole_43 (by decide) rfl rfl ?_
          refine w_iload_n (n := 46) O dX7_whole_45 rfl rfl rfl ?_
          refine w_iload (n := 48) O dX7_whole_46 rfl rfl ?_
          refine w_if_eqN (n := 51) (tgt := 55) O dX7_whole_48 (by omega) (by decide) rfl (fun c_11 => by omega) (fun c_11 => ?_)
          refine w_iconst (n := 52) O dX7_whole_51 (v := (nI 1)) (by decide) rfl ?_
          refine w_goto (tgt := 56) O dX7_whole_52 (by decide) ?_
          refine w_iaddN (n := 57) O dX7_whole_56 rfl ?_
          refine w_istore_n (n := 58) (lv' := [(2, .int (nI ((c + 1)))), (5, .int (nI 1)), (0, .ref (gb_ad G 49)), (1, .int (nI (g))), (3, .int (bI (al))), (4, .int (nI (i)))]) O dX7_whole_57 rfl (by decide) rfl rfl ?_
          refine w_iload_n (n := 59) O dX7_whole_58 rfl rfl rfl ?_
          refine w_if_eqB (n := 62) (tgt := 87) O dX7_whole_59 (by decide) rfl (fun c_12 => ?_) (fun c_12 => ?_)
          · skip
            refine w_iconst (n := 88) O dX7_whole_87 (v := (nI 0)) (by decide) rfl ?_
            refine w_istore_n (n := 89) (lv' := [(3, .int (nI 0)), (2, .int (nI ((c + 1)))), (5, .int (nI 1)), (0, .ref (gb_ad G 49)), (1, .int (nI (g))), (4, .int (nI (i)))]) O dX7_whole_88 rfl (by decide) rfl rfl ?_
            refine w_iincN (n := 92) (lv' := [(4, .int (nI (i + 1))), (3, .int (nI 0)), (2, .int (nI ((c + 1)))), (5, .int (nI 1)), (0, .ref (gb_ad G 49)), (1, .int (nI (g)))]) O dX7_whole_89 rfl (by decide) rfl rfl ?_
            refine w_goto (tgt := 7) O dX7_whole_92 (by decide) ?_
            refine w_lv (lv2 := [(0, .ref (gb_ad G 49)), (1, .int (nI (g))), (2, .int (nI ((c + 1)))), (3, .int (nI 0)), (4, .int (nI (i + 1)))]) [4, 5, 2, 1, 0] rfl ?_
            exact ih_LA _ (by omega) (i + 1) ((c + 1)) false rfl (by omega) (by rw [sCnt, ← hc]; unfold tAlk; rw [decide_eq_true c_7]; rfl) (by rw [sAll, ← ha, c_12]; rfl)
          · skip
            refine w_iload (n := 64) O dX7_whole_62 rfl rfl ?_
            refine w_if_eqN (n := 67) (tgt := 83) O dX7_whole_64 (by omega) (by decide) rfl (fun c_13 => by omega) (fun c_13 => ?_)
            refine w_aload_n (n := 68) O dX7_whole_67 rfl rfl rfl ?_
            refine w_getf (n := 71) O 0 dX7_whole_68 (by omega) h49 rfl (by decide) uX7 uf_X7_7 rfl rfl ?_
            refine w_bipush (n := 73) O dX7_whole_71 (v := (nI 20)) (by decide) rfl ?_
            refine w_ialdP (n := 74) (v := s 20) O dX7_whole_73 hW.2.1 (by omega) h50 (by omega) (by decide) (by omega) rfl rfl ?_
            refine w_iload (n := 76) O dX7_whole_74 rfl rfl ?_
            refine w_ishr (n := 77) O dX7_whole_76 rfl ?_
            refine w_top (nI ((s 20) / 2 ^ i)) (nI_shr (by omega) (by omega)) ?_
            refine w_iconst (n := 78) O dX7_whole_77 (v := (nI 1)) (by decide) rfl ?_
            refine w_iand (n := 79) O dX7_whole_78 rfl ?_
            refine w_top (nI (((s 20) / 2 ^ i) % 2)) (nI_and1 (by omega)) ?_
            refine w_iconst (n := 80) O dX7_whole_79 (v := (nI 1)) (by decide) rfl ?_
            refine w_icmp_neN (n := 83) (tgt := 87) O dX7_whole_80 (by omega) (by omega) (by decide) rfl (fun c_14 => ?_) (fun c_14 => ?_)
            · skip
              refine w_iconst (n := 88) O dX7_whole_87 (v := (nI 0)) (by decide) rfl ?_
              refine w_istore_n (n := 89) (lv' := [(3, .int (nI 0)), (2, .int (nI ((c + 1)))), (5, .int (nI 1)), (0, .ref (gb_ad G 49)), (1, .int (nI (g))), (4, .int (nI (i)))]) O dX7_whole_88 rfl (by decide) rfl rfl ?_
              refine w_iincN (n := 92) (lv' := [(4, .int (nI (i + 1))), (3, .int (nI 0)), (2, .int (nI ((c + 1)))), (5, .int (nI 1)), (0, .ref (gb_ad G 49)), (1, .int (nI (g)))]) O dX7_whole_89 rfl (by decide) rfl rfl ?_
              refine w_goto (tgt := 7) O dX7_whole_92 (by decide) ?_
              refine w_lv (lv2 := [(0, .ref (gb_ad G 49)), (1, .int (nI (g))), (2, .int (nI ((c + 1)))), (3, .int (nI 0)), (4, .int (nI (i + 1)))]) [4, 5, 2, 1, 0] rfl ?_
              exact ih_LA _ (by omega) (i + 1) ((c + 1)) false rfl (by omega) (by rw [sCnt, ← hc]; unfold tAlk; rw [decide_eq_true c_7]; rfl) (by rw [sAll, ← ha, c_12]; unfold tRue; rw [decide_eq_true c_7, decide_eq_true (show T.1 (i * 6 + 4) = 0 by omega)]; rfl)
            · skip
              refine w_iconst (n := 84) O dX7_whole_83 (v := (nI 1)) (by decide) rfl ?_
              refine w_goto (tgt := 88) O dX7_whole_84 (by decide) ?_
              refine w_istore_n (n := 89) (lv' := [(3, .int (nI 1)), (2, .int (nI ((c + 1)))), (5, .int (nI 1)), (0, .ref (gb_ad G 49)), (1, .int (nI (g))), (4, .int (nI (i)))]) O dX7_whole_88 rfl (by decide) rfl rfl ?_
              refine w_iincN (n := 92) (lv' := [(4, .int (nI (i + 1))), (3, .int (nI 1)), (2, .int (nI ((c + 1)))), (5, .int (nI 1)), (0, .ref (gb_ad G 49)), (1, .int (nI (g)))]) O dX7_whole_89 rfl (by decide) rfl rfl ?_
              refine w_goto (tgt := 7) O dX7_whole_92 (by decide) ?_
              refine w_lv (lv2 := [(0, .ref (gb_ad G 49)), (1, .int (nI (g))), (2, .int (nI ((c + 1)))), (3, .int (nI 1)), (4, .int (nI (i + 1)))]) [4, 5, 2, 1, 0] rfl ?_
              exact ih_LA _ (by omega) (i + 1) ((c + 1)) true rfl (by omega) (by rw [sCnt, ← hc]; unfold tAlk; rw [decide_eq_true c_7]; rfl) (by rw [sAll, ← ha, c_12]; unfold tRue; rw [decide_eq_true c_7, decide_eq_false (show ¬ T.1 (i * 6 + 4) = 0 by omega)]; rfl)
  refine w_lv (lv2 := [(0, .ref (gb_ad G 49)), (1, .int (nI (g))), (2, .int (nI 0)), (3, .int (nI 1)), (4, .int (nI 0))]) [3, 4, 2, 1, 0] rfl ?_
  exact LA _ 0 0 true rfl (Nat.zero_le _) rfl rfl
set_option maxRecDepth 100000 in
set_option maxHeartbeats 4000000 in
theorem f_X7_gives {G : gb_G} (hW : gW G) {Q : Option Value → gb_M → Prop} {mM : gb_M} {s : Nat → Nat} {T : Tw} {lo li : Nat} {to : Option Nat} {tm : Nat} (hV : isV G mM s T lo li to tm) (ok : okT T) (hto : ∀ k, to = some k → k < 4) (htm : tm ≤ 40) (hlo : lo < 16) (hli : li < 16) {g : Nat} (hg : g < T.2.2.2.1)  (hQ : Q (some (.int (nI (gGv T lo li to tm g)))) mM) : Fn G 2 yX7_gives cX7_gives 3 (some .int) [.ref (gb_ad G 49), .int (nI (g))] mM Q := by
  obtain ⟨h50, hpg, x3, x4, x5, x6, x7, x9, x10, x11, x12, x13, x14, x15, x16, x24, x26, x31, h49⟩ := hV
  have hV : isV G mM s T lo li to tm := ⟨h50, hpg, x3, x4, x5, x6, x7, x9, x10, x11, x12, x13, x14, x15, x16, x24, x26, x31, h49⟩
  have hn4 := ok.1
  have hN := hW.2.2.1
  refine Fn.of hW.1 [(0, .ref (gb_ad G 49)), (1, .int (nI (g)))] (by decide) (Nat.le_of_ble_eq_true rfl) rfl ?_
  intro X O
  have ho := tShare_le ok (show g < 4 by omega)
  have hk2 := ok.2.1 g (by omega)
  have hsl1 := sh_le lo g
  have hsl2 := sh_le li g
  have hgl := tGives_le ok (show g < 4 by omega)
  refine w_aload_n (n := 1) O dX7_gives_0 rfl rfl rfl ?_
  refine w_iload_n (n := 2) O dX7_gives_1 rfl rfl rfl ?_
  refine w_cV (n := 5) (ro := some (.int (nI (tShare T g)))) (R := fun mM' => mM = mM') (st := []) (st1 := [.int (nI (tShare T g))]) (As := [.int (nI (g))]) (b := 49) O dX7_gives_2 ul_X7_153 um_X7_whole (f_X7_whole (s := s) (T := T) (lo := lo) (li := li) (to := to) (tm := tm) hW hV ok (by omega) ⟨rfl, rfl⟩) rfl (by omega) h49 rfl rfl rfl rfl (by decide) (Nat.le_of_ble_eq_true rfl) rfl (fun mhM_1 hM_1 => ?_)
  subst hM_1
  refine w_aload_n (n := 6) O dX7_gives_5 rfl rfl rfl ?_
  refine w_getf (n := 9) O 0 dX7_gives_6 (by omega) h49 rfl (by decide) uX7 uf_X7_7 rfl rfl ?_
  refine w_bipush (n := 11) O dX7_gives_9 (v := (nI 16)) (by decide) rfl ?_
  refine w_iload_n (n := 12) O dX7_gives_11 rfl rfl rfl ?_
  refine w_iaddN (n := 13) O dX7_gives_12 rfl ?_
  refine w_ialdP (n := 14) (v := T.1 (g * 6 + 5)) O dX7_gives_13 hW.2.1 (by omega) h50 (by omega) (by decide) (by omega) (hpg.1 g (by omega)).2.2.2.2 rfl ?_
  refine w_isub (n := 15) O dX7_gives_14 rfl ?_
  refine w_istore_n (n := 16) (lv' := [(2, .int (((nI (tShare T g)) - (nI (T.1 (g * 6 + 5)))))), (0, .ref (gb_ad G 49)), (1, .int (nI (g)))]) O dX7_gives_15 rfl (by decide) rfl rfl ?_
  refine w_iload_n (n := 17) O dX7_gives_16 rfl rfl rfl ?_
  refine w_if_ge (n := 20) (tgt := 24) O dX7_gives_17 (by decide) rfl (fun c_2 => ?_) (fun c_2 => ?_)
  · skip
    have hgv : nI (tShare T g) - nI (T.1 (g * 6 + 5)) = nI (tGives T g) := sub_ge (by omega) c_2
    rw [hgv]
    refine w_iload_n (n := 25) O dX7_gives_24 rfl rfl rfl ?_
    refine w_istore_n (n := 26) (lv' := [(2, .int (nI (tGives T g))), (0, .ref (gb_ad G 49)), (1, .int (nI (g)))]) O dX7_gives_25 rfl (by decide) rfl rfl ?_
    refine w_iload_n (n := 27) O dX7_gives_26 rfl rfl rfl ?_
    refine w_aload_n (n := 28) O dX7_gives_27 rfl rfl rfl ?_
    refine w_getf (n := 31) O 21 dX7_gives_28 (by omega) h49 rfl (by decide) uX7 uf_X7_25 rfl rfl ?_
    refine w_icmp_ne (n := 34) (tgt := 41) O dX7_gives_31 (by decide) rfl (fun c_3 => ?_) (fun c_3 => ?_)
    · skip
      refine w_iload_n (n := 42) O dX7_gives_41 rfl rfl rfl ?_
      refine w_istore_n (n := 43) (lv' := [(2, .int (nI (tGives T g))), (0, .ref (gb_ad G 49)), (1, .int (nI (g)))]) O dX7_gives_42 rfl (by decide) rfl rfl ?_
      refine w_aload_n (n := 44) O dX7_gives_43 rfl rfl rfl ?_
      refine w_getf (n := 47) O 20 dX7_gives_44 (by omega) h49 rfl (by decide) uX7 uf_X7_159 rfl rfl ?_
      refine w_iload_n (n := 48) O dX7_gives_47 rfl rfl rfl ?_
      refine w_ishr (n := 49) O dX7_gives_48 rfl ?_
      refine w_top (nI (li / 2 ^ g)) (nI_shr (by omega) (by omega)) ?_
      refine w_iconst (n := 50) O dX7_gives_49 (v := (nI 1)) (by decide) rfl ?_
      refine w_iand (n := 51) O dX7_gives_50 rfl ?_
      refine w_top (nI ((li / 2 ^ g) % 2)) (nI_and1 (by omega)) ?_
      refine w_iconst (n := 52) O dX7_gives_51 (v := (nI 1)) (by decide) rfl ?_
      refine w_icmp_neN (n := 55) (tgt := 61) O dX7_gives_52 (by omega) (by omega) (by decide) rfl (fun c_4 => ?_) (fun c_4 => ?_)
      · skip
        refine w_iload_n (n := 62) O dX7_gives_61 rfl rfl rfl ?_
        refine w_istore_n (n := 63) (lv' := [(2, .int (nI (tGives T g))), (0, .ref (gb_ad G 49)), (1, .int (nI (g)))]) O dX7_gives_62 rfl (by decide) rfl rfl ?_
        refine w_aload_n (n := 64) O dX7_gives_63 rfl rfl rfl ?_
        refine w_getf (n := 67) O 19 dX7_gives_64 (by omega) h49 rfl (by decide) uX7 uf_X7_162 rfl rfl ?_
        refine w_iload_n (n := 68) O dX7_gives_67 rfl rfl rfl ?_
        refine w_ishr (n := 69) O dX7_gives_68 rfl ?_
        refine w_top (nI (lo / 2 ^ g)) (nI_shr (by omega) (by omega)) ?_
        refine w_iconst (n := 70) O dX7_gives_69 (v := (nI 1)) (by decide) rfl ?_
        refine w_iand (n := 71) O dX7_gives_70 rfl ?_
        refine w_top (nI ((lo / 2 ^ g) % 2)) (nI_and1 (by omega)) ?_
        refine w_iconst (n := 72) O dX7_gives_71 (v := (nI 1)) (by decide) rfl ?_
        refine w_icmp_neN (n := 75) (tgt := 79) O dX7_gives_72 (by omega) (by omega) (by decide) rfl (fun c_5 => ?_) (fun c_5 => ?_)
        · skip
          refine w_iload_n (n := 80) O dX7_gives_79 rfl rfl rfl ?_
          refine w_iret O dX7_gives_80 ?_
          have e : gGv T lo li to tm g = tGives T g := by unfold gGv; rw [if_neg (by rw [show hasB lo g = false from decide_eq_false c_5]; decide)]; rw [if_neg (by rw [show hasB li g = false from decide_eq_false c_4]; decide)]; rw [if_neg (fun z => c_3 ((oI_g (by omega) (fun k hk => by have := hto k hk; omega)).mpr z))]
          rw [e] at hQ
          exact hQ
        · skip
          refine w_iconst (n := 76) O dX7_gives_75 (v := (nI 0)) (by decide) rfl ?_
          refine w_goto (tgt := 80) O dX7_gives_76 (by decide) ?_
          refine w_iret O dX7_gives_80 ?_
          have e : gGv T lo li to tm g = 0 := by unfold gGv; rw [if_pos (show hasB lo g = true from decide_eq_true c_5)]
          rw [e] at hQ
          exact hQ
      · skip
        refine w_iload_n (n := 56) O dX7_gives_55 rfl rfl rfl ?_
        refine w_iconst (n := 57) O dX7_gives_56 (v := (nI 2)) (by decide) rfl ?_
        refine w_idivN (n := 58) O dX7_gives_57 (by omega) (by omega) (by omega) rfl ?_
        refine w_goto (tgt := 62) O dX7_gives_58 (by decide) ?_
        refine w_istore_n (n := 63) (lv' := [(2, .int (nI (((tGives T g) / 2)))), (0, .ref (gb_ad G 49)), (1, .int (nI (g)))]) O dX7_gives_62 rfl (by decide) rfl rfl ?_
        refine w_aload_n (n := 64) O dX7_gives_63 rfl rfl rfl ?_
        refine w_getf (n := 67) O 19 dX7_gives_64 (by omega) h49 rfl (by decide) uX7 uf_X7_162 rfl rfl ?_
        refine w_iload_n (n := 68) O dX7_gives_67 rfl rfl rfl ?_
        refine w_ishr (n := 69) O dX7_gives_68 rfl ?_
        refine w_top (nI (lo / 2 ^ g)) (nI_shr (by omega) (by omega)) ?_
        refine w_iconst (n := 70) O dX7_gives_69 (v := (nI 1)) (by decide) rfl ?_
        refine w_iand (n := 71) O dX7_gives_70 rfl ?_
        refine w_top (nI ((lo / 2 ^ g) % 2)) (nI_and1 (by omega)) ?_
        refine w_iconst (n := 72) O dX7_gives_71 (v := (nI 1)) (by decide) rfl ?_
        refine w_icmp_neN (n := 75) (tgt := 79) O dX7_gives_72 (by omega) (by omega) (by decide) rfl (fun c_6 => ?_) (fun c_6 => ?_)
        · skip
          refine w_iload_n (n := 80) O dX7_gives_79 rfl rfl rfl ?_
          refine w_iret O dX7_gives_80 ?_
          have e : gGv T lo li to tm g = ((tGives T g) / 2) := by unfold gGv; rw [if_neg (by rw [show hasB lo g = false from decide_eq_false c_6]; decide)]; rw [if_pos (show hasB li g = true from decide_eq_true c_4)]; rw [if_neg (fun z => c_3 ((oI_g (by omega) (fun k hk => by have := hto k hk; omega)).mpr z))]
          rw [e] at hQ
          exact hQ
        · skip
          refine w_iconst (n := 76) O dX7_gives_75 (v := (nI 0)) (by decide) rfl ?_
          refine w_goto (tgt := 80) O dX7_gives_76 (by decide) ?_
          refine w_iret O dX7_gives_80 ?_
          have e : gGv T lo li to tm g = 0 := by unfold gGv; rw [if_pos (show hasB lo g = true from decide_eq_true c_6)]
          rw [e] at hQ
          exact hQ
    · skip
      refine w_aload_n (n := 35) O dX7_gives_34 rfl rfl rfl ?_
      refine w_getf (n := 38) O 22 dX7_gives_35 (by omega) h49 rfl (by decide) uX7 uf_X7_156 rfl rfl ?_
      refine w_goto (tgt := 42) O dX7_gives_38 (by decide) ?_
      refine w_istore_n (n := 43) (lv' := [(2, .int (nI (tm))), (0, .ref (gb_ad G 49)), (1, .int (nI (g)))]) O dX7_gives_42 rfl (by decide) rfl rfl ?_
      refine w_aload_n (n := 44) O dX7_gives_43 rfl rfl rfl ?_
      refine w_getf (n := 47) O 20 dX7_gives_44 (by omega) h49 rfl (by decide) uX7 uf_X7_159 rfl rfl ?_
      refine w_iload_n (n := 48) O dX7_gives_47 rfl rfl rfl ?_
      refine w_ishr (n := 49) O dX7_gives_48 rfl ?_
      refine w_top (nI (li / 2 ^ g)) (nI_shr (by omega) (by omega)) ?_
      refine w_iconst (n := 50) O dX7_gives_49 (v := (nI 1)) (by decide) rfl ?_
      refine w_iand (n := 51) O dX7_gives_50 rfl ?_
      refine w_top (nI ((li / 2 ^ g) % 2)) (nI_and1 (by omega)) ?_
      refine w_iconst (n := 52) O dX7_gives_51 (v := (nI 1)) (by decide) rfl ?_
      refine w_icmp_neN (n := 55) (tgt := 61) O dX7_gives_52 (by omega) (by omega) (by decide) rfl (fun c_7 => ?_) (fun c_7 => ?_)
      · skip
        refine w_iload_n (n := 62) O dX7_gives_61 rfl rfl rfl ?_
        refine w_istore_n (n := 63) (lv' := [(2, .int (nI (tm))), (0, .ref (gb_ad G 49)), (1, .int (nI (g)))]) O dX7_gives_62 rfl (by decide) rfl rfl ?_
        refine w_aload_n (n := 64) O dX7_gives_63 rfl rfl rfl ?_
        refine w_getf (n := 67) O 19 dX7_gives_64 (by omega) h49 rfl (by decide) uX7 uf_X7_162 rfl rfl ?_
        refine w_iload_n (n := 68) O dX7_gives_67 rfl rfl rfl ?_
        refine w_ishr (n := 69) O dX7_gives_68 rfl ?_
        refine w_top (nI (lo / 2 ^ g)) (nI_shr (by omega) (by omega)) ?_
        refine w_iconst (n := 70) O dX7_gives_69 (v := (nI 1)) (by decide) rfl ?_
        refine w_iand (n := 71) O dX7_gives_70 rfl ?_
        refine w_top (nI ((lo / 2 ^ g) % 2)) (nI_and1 (by omega)) ?_
        refine w_iconst (n := 72) O dX7_gives_71 (v := (nI 1)) (by decide) rfl ?_
        refine w_icmp_neN (n := 75) (tgt := 79) O dX7_gives_72 (by omega) (by omega) (by decide) rfl (fun c_8 => ?_) (fun c_8 => ?_)
        · skip
          refine w_iload_n (n := 80) O dX7_gives_79 rfl rfl rfl ?_
          refine w_iret O dX7_gives_80 ?_
          have e : gGv T lo li to tm g = tm := by unfold gGv; rw [if_neg (by rw [show hasB lo g = false from decide_eq_false c_8]; decide)]; rw [if_neg (by rw [show hasB li g = false from decide_eq_false c_7]; decide)]; rw [if_pos ((oI_g (by omega) (fun k hk => by have := hto k hk; omega)).mp c_3)]
          rw [e] at hQ
          exact hQ
        · skip
          refine w_iconst (n := 76) O dX7_gives_75 (v := (nI 0)) (by decide) rfl ?_
          refine w_goto (tgt := 80) O dX7_gives_76 (by decide) ?_
          refine w_iret O dX7_gives_80 ?_
          have e : gGv T lo li to tm g = 0 := by unfold gGv; rw [if_pos (show hasB lo g = true from decide_eq_true c_8)]
          rw [e] at hQ
          exact hQ
      · skip
        refine w_iload_n (n := 56) O dX7_gives_55 rfl rfl rfl ?_
        refine w_iconst (n := 57) O dX7_gives_56 (v := (nI 2)) (by decide) rfl ?_
        refine w_idivN (n := 58) O dX7_gives_57 (by omega) (by omega) (by omega) rfl ?_
        refine w_goto (tgt := 62) O dX7_gives_58 (by decide) ?_
        refine w_istore_n (n := 63) (lv' := [(2, .int (nI ((tm / 2)))), (0, .ref (gb_ad G 49)), (1, .int (nI (g)))]) O dX7_gives_62 rfl (by decide) rfl rfl ?_
        refine w_aload_n (n := 64) O dX7_gives_63 rfl rfl rfl ?_
        refine w_getf (n := 67) O 19 dX7_gives_64 (by omega) h49 rfl (by decide) uX7 uf_X7_162 rfl rfl ?_
        refine w_iload_n (n := 68) O dX7_gives_67 rfl rfl rfl ?_
        refine w_ishr (n := 69) O dX7_gives_68 rfl ?_
        refine w_top (nI (lo / 2 ^ g)) (nI_shr (by omega) (by omega)) ?_
        refine w_iconst (n := 70) O dX7_gives_69 (v := (nI 1)) (by decide) rfl ?_
        refine w_iand (n := 71) O dX7_gives_70 rfl ?_
        refine w_top (nI ((lo / 2 ^ g) % 2)) (nI_and1 (by omega)) ?_
        refine w_iconst (n := 72) O dX7_gives_71 (v := (nI 1)) (by decide) rfl ?_
        refine w_icmp_neN (n := 75) (tgt := 79) O dX7_gives_72 (by omega) (by omega) (by decide) rfl (fun c_9 => ?_) (fun c_9 => ?_)
        · skip
          refine w_iload_n (n := 80) O dX7_gives_79 rfl rfl rfl ?_
          refine w_iret O dX7_gives_80 ?_
          have e : gGv T lo li to tm g = (tm / 2) := by unfold gGv; rw [if_neg (by rw [show hasB lo g = false from decide_eq_false c_9]; decide)]; rw [if_pos (show hasB li g = true from decide_eq_true c_7)]; rw [if_pos ((oI_g (by omega) (fun k hk => by have := hto k hk; omega)).mp c_3)]
          rw [e] at hQ
          exact hQ
        · skip
          refine w_iconst (n := 76) O dX7_gives_75 (v := (nI 0)) (by decide) rfl ?_
          refine w_goto (tgt := 80) O dX7_gives_76 (by decide) ?_
          refine w_iret O dX7_gives_80 ?_
          have e : gGv T lo li to tm g = 0 := by unfold gGv; rw [if_pos (show hasB lo g = true from decide_eq_true c_9)]
          rw [e] at hQ
          exact hQ
  · skip
    have hz0 : tGives T g = 0 := sub_lt (by omega) c_2
    refine w_iconst (n := 21) O dX7_gives_20 (v := (nI 0)) (by decide) rfl ?_
    refine w_goto (tgt := 25) O dX7_gives_21 (by decide) ?_
    refine w_top (nI (tGives T g)) (by rw [hz0]) ?_
    refine w_istore_n (n := 26) (lv' := [(2, .int (nI (tGives T g))), (0, .ref (gb_ad G 49)), (1, .int (nI (g)))]) O dX7_gives_25 rfl (by decide) rfl rfl ?_
    refine w_iload_n (n := 27) O dX7_gives_26 rfl rfl rfl ?_
    refine w_aload_n (n := 28) O dX7_gives_27 rfl rfl rfl ?_
    refine w_getf (n := 31) O 21 dX7_gives_28 (by omega) h49 rfl (by decide) uX7 uf_X7_25 rfl rfl ?_
    refine w_icmp_ne (n := 34) (tgt := 41) O dX7_gives_31 (by decide) rfl (fun c_10 => ?_) (fun c_10 => ?_)
    · skip
      refine w_iload_n (n := 42) O dX7_gives_41 rfl rfl rfl ?_
      refine w_istore_n (n := 43) (lv' := [(2, .int (nI (tGives T g))), (0, .ref (gb_ad G 49)), (1, .int (nI (g)))]) O dX7_gives_42 rfl (by decide) rfl rfl ?_
      refine w_aload_n (n := 44) O dX7_gives_43 rfl rfl rfl ?_
      refine w_getf (n := 47) O 20 dX7_gives_44 (by omega) h49 rfl (by decide) uX7 uf_X7_159 rfl rfl ?_
      refine w_iload_n (n := 48) O dX7_gives_47 rfl rfl rfl ?_
      refine w_ishr (n := 49) O dX7_gives_48 rfl ?_
      refine w_top (nI (li / 2 ^ g)) (nI_shr (by omega) (by omega)) ?_
      refine w_iconst (n := 50) O dX7_gives_49 (v := (nI 1)) (by decide) rfl ?_
      refine w_iand (n := 51) O dX7_gives_50 rfl ?_
      refine w_top (nI ((li / 2 ^ g) % 2)) (nI_and1 (by omega)) ?_
      refine w_iconst (n := 52) O dX7_gives_51 (v := (nI 1)) (by decide) rfl ?_
      refine w_icmp_neN (n := 55) (tgt := 61) O dX7_gives_52 (by omega) (by omega) (by decide) rfl (fun c_11 => ?_) (fun c_11 => ?_)
      · skip
        refine w_iload_n (n := 62) O dX7_gives_61 rfl rfl rfl ?_
        refine w_istore_n (n := 63) (lv' := [(2, .int (nI (tGives T g))), (0, .ref (gb_ad G 49)), (1, .int (nI (g)))]) O dX7_gives_62 rfl (by decide) rfl rfl ?_
        refine w_aload_n (n := 64) O dX7_gives_63 rfl rfl rfl ?_
        refine w_getf (n := 67) O 19 dX7_gives_64 (by omega) h49 rfl (by decide) uX7 uf_X7_162 rfl rfl ?_
        refine w_iload_n (n := 68) O dX7_gives_67 rfl rfl rfl ?_
        refine w_ishr (n := 69) O dX7_gives_68 rfl ?_
        refine w_top (nI (lo / 2 ^ g)) (nI_shr (by omega) (by omega)) ?_
        refine w_iconst (n := 70) O dX7_gives_69 (v := (nI 1)) (by decide) rfl ?_
        refine w_iand (n := 71) O dX7_gives_70 rfl ?_
        refine w_top (nI ((lo / 2 ^ g) % 2)) (nI_and1 (by omega)) ?_
        refine w_iconst (n := 72) O dX7_gives_71 (v := (nI 1)) (by decide) rfl ?_
        refine w_icmp_neN (n := 75) (tgt := 79) O dX7_gives_72 (by omega) (by omega) (by decide) rfl (fun c_12 => ?_) (fun c_12 => ?_)
        · skip
          refine w_iload_n (n := 80) O dX7_gives_79 rfl rfl rfl ?_
          refine w_iret O dX7_gives_80 ?_
          have e : gGv T lo li to tm g = tGives T g := by unfold gGv; rw [if_neg (by rw [show hasB lo g = false from decide_eq_false c_12]; decide)]; rw [if_neg (by rw [show hasB li g = false from decide_eq_false c_11]; decide)]; rw [if_neg (fun z => c_10 ((oI_g (by omega) (fun k hk => by have := hto k hk; omega)).mpr z))]
          rw [e] at hQ
          exact hQ
        · skip
          refine w_iconst (n := 76) O dX7_gives_75 (v := (nI 0)) (by decide) rfl ?_
          refine w_goto (tgt := 80) O dX7_gives_76 (by decide) ?_
          refine w_iret O dX7_gives_80 ?_
          have e : gGv T lo li to tm g = 0 := by unfold gGv; rw [if_pos (show hasB lo g = true from decide_eq_true c_12)]
          rw [e] at hQ
          exact hQ
      · skip
        refine w_iload_n (n := 56) O dX7_gives_55 rfl rfl rfl ?_
        refine w_iconst (n := 57) O dX7_gives_56 (v := (nI 2)) (by decide) rfl ?_
        refine w_idivN (n := 58) O dX7_gives_57 (by omega) (by omega) (by omega) rfl ?_
        refine w_goto (tgt := 62) O dX7_gives_58 (by decide) ?_
        refine w_istore_n (n := 63) (lv' := [(2, .int (nI (((tGives T g) / 2)))), (0, .ref (gb_ad G 49)), (1, .int (nI (g)))]) O dX7_gives_62 rfl (by decide) rfl rfl ?_
        refine w_aload_n (n := 64) O dX7_gives_63 rfl rfl rfl ?_
        refine w_getf (n := 67) O 19 dX7_gives_64 (by omega) h49 rfl (by decide) uX7 uf_X7_162 rfl rfl ?_
        refine w_iload_n (n := 68) O dX7_gives_67 rfl rfl rfl ?_
        refine w_ishr (n := 69) O dX7_gives_68 rfl ?_
        refine w_top (nI (lo / 2 ^ g)) (nI_shr (by omega) (by omega)) ?_
        refine w_iconst (n := 70) O dX7_gives_69 (v := (nI 1)) (by decide) rfl ?_
        refine w_iand (n := 71) O dX7_gives_70 rfl ?_
        refine w_top (nI ((lo / 2 ^ g) % 2)) (nI_and1 (by omega)) ?_
        refine w_iconst (n := 72) O dX7_gives_71 (v := (nI 1)) (by decide) rfl ?_
        refine w_icmp_neN (n := 75) (tgt := 79) O dX7_gives_72 (by omega) (by omega) (by decide) rfl (fun c_13 => ?_) (fun c_13 => ?_)
        · skip
          refine w_iload_n (n := 80) O dX7_gives_79 rfl rfl rfl ?_
          refine w_iret O dX7_gives_80 ?_
          have e : gGv T lo li to tm g = ((tGives T g) / 2) := by unfold gGv; rw [if_neg (by rw [show hasB lo g = false from decide_eq_false c_13]; decide)]; rw [if_pos (show hasB li g = true from decide_eq_true c_11)]; rw [if_neg (fun z => c_10 ((oI_g (by omega) (fun k hk => by have := hto k hk; omega)).mpr z))]
          rw [e] at hQ
          exact hQ
        · skip
          refine w_iconst (n := 76) O dX7_gives_75 (v := (nI 0)) (by decide) rfl ?_
          refine w_goto (tgt := 80) O dX7_gives_76 (by decide) ?_
          refine w_iret O dX7_gives_80 ?_
          have e : gGv T lo li to tm g = 0 := by unfold gGv; rw [if_pos (show hasB lo g = true from decide_eq_true c_13)]
          rw [e] at hQ
          exact hQ
    · skip
      refine w_aload_n (n := 35) O dX7_gives_34 rfl rfl rfl ?_
      refine w_getf (n := 38) O 22 dX7_gives_35 (by omega) h49 rfl (by decide) uX7 uf_X7_156 rfl rfl ?_
      refine w_goto (tgt := 42) O dX7_gives_38 (by decide) ?_
      refine w_istore_n (n := 43) (lv' := [(2, .int (nI (tm))), (0, .ref (gb_ad G 49)), (1, .int (nI (g)))]) O dX7_gives_42 rfl (by decide) rfl rfl ?_
      refine w_aload_n (n := 44) O dX7_gives_43 rfl rfl rfl ?_
      refine w_getf (n := 47) O 20 dX7_gives_44 (by omega) h49 rfl (by decide) uX7 uf_X7_159 rfl rfl ?_
      refine w_iload_n (n := 48) O dX7_gives_47 rfl rfl rfl ?_
      refine w_ishr (n := 49) O dX7_gives_48 rfl ?_
      refine w_top (nI (li / 2 ^ g)) (nI_shr (by omega) (by omega)) ?_
      refine w_iconst (n := 50) O dX7_gives_49 (v := (nI 1)) (by decide) rfl ?_
      refine w_iand (n := 51) O dX7_gives_50 rfl ?_
      refine w_top (nI ((li / 2 ^ g) % 2)) (nI_and1 (by omega)) ?_
      refine w_iconst (n := 52) O dX7_gives_51 (v := (nI 1)) (by decide) rfl ?_
      refine w_icmp_neN (n := 55) (tgt := 61) O dX7_gives_52 (by omega) (by omega) (by decide) rfl (fun c_14 => ?_) (fun c_14 => ?_)
      · skip
        refine w_iload_n (n := 62) O dX7_gives_61 rfl rfl rfl ?_
        refine w_istore_n (n := 63) (lv' := [(2, .int (nI (tm))), (0, .ref (gb_ad G 49)), (1, .int (nI (g)))]) O dX7_gives_62 rfl (by decide) rfl rfl ?_
        refine w_aload_n (n := 64) O dX7_gives_63 rfl rfl rfl ?_
        refine w_getf (n := 67) O 19 dX7_gives_64 (by omega) h49 rfl (by decide) uX7 uf_X7_162 rfl rfl ?_
        refine w_iload_n (n := 68) O dX7_gives_67 rfl rfl rfl ?_
        refine w_ishr (n := 69) O dX7_gives_68 rfl ?_
        refine w_top (nI (lo / 2 ^ g)) (nI_shr (by omega) (by omega)) ?_
        refine w_iconst (n := 70) O dX7_gives_69 (v := (nI 1)) (by decide) rfl ?_
        refine w_iand (n := 71) O dX7_gives_70 rfl ?_
        refine w_top (nI ((lo / 2 ^ g) % 2)) (nI_and1 (by omega)) ?_
        refine w_iconst (n := 72) O dX7_gives_71 (v := (nI 1)) (by decide) rfl ?_
        refine w_icmp_neN (n := 75) (tgt := 79) O dX7_gives_72 (by omega) (by omega) (by decide) rfl (fun c_15 => ?_) (fun c_15 => ?_)
        · skip
          refine w_iload_n (n := 80) O dX7_gives_79 rfl rfl rfl ?_
          refine w_iret O dX7_gives_80 ?_
          have e : gGv T lo li to tm g = tm := by unfold gGv; rw [if_neg (by rw [show hasB lo g = false from decide_eq_false c_15]; decide)]; rw [if_neg (by rw [show hasB li g = false from decide_eq_false c_14]; decide)]; rw [if_pos ((oI_g (by omega) (fun k hk => by have := hto k hk; omega)).mp c_10)]
          rw [e] at hQ
          exact hQ
        · skip
          refine w_iconst (n := 76) O dX7_gives_75 (v := (nI 0)) (by decide) rfl ?_
          refine w_goto (tgt := 80) O dX7_gives_76 (by decide) ?_
          refine w_iret O dX7_gives_80 ?_
          have e : gGv T lo li to tm g = 0 := by unfold gGv; rw [if_pos (show hasB lo g = true from decide_eq_true c_15)]
          rw [e] at hQ
          exact hQ
      · skip
        refine w_iload_n (n := 56) O dX7_gives_55 rfl rfl rfl ?_
        refine w_iconst (n := 57) O dX7_gives_56 (v := (nI 2)) (by decide) rfl ?_
        refine w_idivN (n := 58) O dX7_gives_57 (by omega) (by omega) (by omega) rfl ?_
        refine w_goto (tgt := 62) O dX7_gives_58 (by decide) ?_
        refine w_istore_n (n := 63) (lv' := [(2, .int (nI ((tm / 2)))), (0, .ref (gb_ad G 49)), (1, .int (nI (g)))]) O dX7_gives_62 rfl (by decide) rfl rfl ?_
        refine w_aload_n (n := 64) O dX7_gives_63 rfl rfl rfl ?_
        refine w_getf (n := 67) O 19 dX7_gives_64 (by omega) h49 rfl (by decide) uX7 uf_X7_162 rfl rfl ?_
        refine w_iload_n (n := 68) O dX7_gives_67 rfl rfl rfl ?_
        refine w_ishr (n := 69) O dX7_gives_68 rfl ?_
        refine w_top (nI (lo / 2 ^ g)) (nI_shr (by omega) (by omega)) ?_
        refine w_iconst (n := 70) O dX7_gives_69 (v := (nI 1)) (by decide) rfl ?_
        refine w_iand (n := 71) O dX7_gives_70 rfl ?_
        refine w_top (nI ((lo / 2 ^ g) % 2)) (nI_and1 (by omega)) ?_
        refine w_iconst (n := 72) O dX7_gives_71 (v := (nI 1)) (by decide) rfl ?_
        refine w_icmp_neN (n := 75) (tgt := 79) O dX7_gives_72 (by omega) (by omega) (by decide) rfl (fun c_16 => ?_) (fun c_16 => ?_)
        · skip
          refine w_iload_n (n := 80) O dX7_gives_79 rfl rfl rfl ?_
          refine w_iret O dX7_gives_80 ?_
          have e : gGv T lo li to tm g = (tm / 2) := by unfold gGv; rw [if_neg (by rw [show hasB lo g = false from decide_eq_false c_16]; decide)]; rw [if_pos (show hasB li g = true from decide_eq_true c_14)]; rw [if_pos ((oI_g (by omega) (fun k hk => by have := hto k hk; omega)).mp c_10)]
          rw [e] at hQ
          exact hQ
        · skip
          refine w_iconst (n := 76) O dX7_gives_75 (v := (nI 0)) (by decide) rfl ?_
          refine w_goto (tgt := 80) O dX7_gives_76 (by decide) ?_
          refine w_iret O dX7_gives_80 ?_
          have e : gGv T lo li to tm g = 0 := by unfold gGv; rw [if_pos (show hasB lo g = true from decide_eq_true c_16)]
          rw [e] at hQ
          exact hQ
theorem f_X7_gives0 {G : gb_G} (hW : gW G) {Q : Option Value → gb_M → Prop} {mM : gb_M} {s : Nat → Nat} {T : Tw} {tm : Nat} (hV : isV G mM s T 0 0 none tm) (ok : okT T) (htm : tm ≤ 40) {g : Nat} (hg : g < T.2.2.2.1) (hQ : Q (some (.int (nI (tGives T g)))) mM) : Fn G 2 yX7_gives cX7_gives 3 (some .int) [.ref (gb_ad G 49), .int (nI (g))] mM Q :=
  f_X7_gives hW hV ok (fun k hk => by cases hk) htm (by decide) (by decide) hg (by rw [gGv_0]; exact hQ)
set_option maxRecDepth 100000 in
set_option maxHeartbeats 4000000 in
theorem f_X7_given {G : gb_G} (hW : gW G) {Q : Option Value → gb_M → Prop} {mM : gb_M} {s : Nat → Nat} {T : Tw} {lo li : Nat} {to : Option Nat} {tm : Nat} (hV : isV G mM s T lo li to tm) (ok : okT T) (hto : ∀ k, to = some k → k < 4) (htm : tm ≤ 40) (hlo : lo < 16) (hli : li < 16) {m : Nat} (hm : m < 4)  (hQ : Q (some (.int (nI (mAmt T (gGv T lo li to tm) m)))) mM) : Fn G 3 yX7_given cX7_given 4 (some .int) [.ref (gb_ad G 49), .int (nI (m))] mM Q := by
  obtain ⟨h50, hpg, x3, x4, x5, x6, x7, x9, x10, x11, x12, x13, x14, x15, x16, x24, x26, x31, h49⟩ := hV
  have hV : isV G mM s T lo li to tm := ⟨h50, hpg, x3, x4, x5, x6, x7, x9, x10, x11, x12, x13, x14, x15, x16, x24, x26, x31, h49⟩
  have hn4 := ok.1
  have hN := hW.2.2.1
  refine Fn.of hW.1 [(0, .ref (gb_ad G 49)), (1, .int (nI (m)))] (by decide) (Nat.le_of_ble_eq_true rfl) rfl ?_
  intro X O
  refine w_iconst (n := 1) O dX7_given_0 (v := (nI 0)) (by decide) rfl ?_
  refine w_istore_n (n := 2) (lv' := [(2, .int (nI 0)), (0, .ref (gb_ad G 49)), (1, .int (nI (m)))]) O dX7_given_1 rfl (by decide) rfl rfl ?_
  refine w_iconst (n := 3) O dX7_given_2 (v := (nI 0)) (by decide) rfl ?_
  refine w_istore_n (n := 4) (lv' := [(3, .int (nI 0)), (2, .int (nI 0)), (0, .ref (gb_ad G 49)), (1, .int (nI (m)))]) O dX7_given_3 rfl (by decide) rfl rfl ?_
  have LA : ∀ (k : Nat) (i c : Nat), T.2.2.2.1 - i = k → i ≤ T.2.2.2.1 → c = mAmtI T (gGv T lo li to tm) i m → Wm G X 4 Q 4 [(0, .ref (gb_ad G 49)), (1, .int (nI (m))), (2, .int (nI (c))), (3, .int (nI (i)))] [] mM := by
    intro k
    induction k using Nat.strongRecOn with
    | ind k ih_LA =>
      intro i c hk hi hc
      refine w_iload_n (n := 5) O dX7_given_4 rfl rfl rfl ?_
      refine w_aload_n (n := 6) O dX7_given_5 rfl rfl rfl ?_
      refine w_getf (n := 9) O 1 dX7_given_6 (by omega) h49 rfl (by decide) uX7 uf_X7_136 rfl rfl ?_
      refine w_icmp_geN (n := 12) (tgt := 43) O dX7_given_9 (by omega) (by omega) (by decide) rfl (fun c_1 => ?_) (fun c_1 => ?_)
      · skip
        refine w_iload_n (n := 44) O dX7_given_43 rfl rfl rfl ?_
        refine w_iret O dX7_given_44 ?_
        have e : mAmt T (gGv T lo li to tm) m = c := by unfold mAmt; rw [show T.2.2.2.1 = i by omega, hc]
        rw [e] at hQ
        exact hQ
      · skip
        have hk1 := ok.2.1 i (by omega)
        refine w_iload_n (n := 13) O dX7_given_12 rfl rfl rfl ?_
        refine w_aload_n (n := 14) O dX7_given_13 rfl rfl rfl ?_
        refine w_getf (n := 17) O 0 dX7_given_14 (by omega) h49 rfl (by decide) uX7 uf_X7_7 rfl rfl ?_
        refine w_bipush (n := 19) O dX7_given_17 (v := (nI 8)) (by decide) rfl ?_
        refine w_iload_n (n := 20) O dX7_given_19 rfl rfl rfl ?_
        refine w_iaddN (n := 21) O dX7_given_20 rfl ?_
        refine w_ialdP (n := 22) (v := T.1 (i * 6 + 2)) O dX7_given_21 hW.2.1 (by omega) h50 (by omega) (by decide) (by omega) (hpg.1 i (by omega)).2.2.1 rfl ?_
        refine w_iload_n (n := 23) O dX7_given_22 rfl rfl rfl ?_
        refine w_icmp_neN (n := 26) (tgt := 34) O dX7_given_23 (by omega) (by omega) (by decide) rfl (fun c_2 => ?_) (fun c_2 => ?_)
        · skip
          refine w_iconst (n := 35) O dX7_given_34 (v := (nI 0)) (by decide) rfl ?_
          refine w_iaddN (n := 36) O dX7_given_35 rfl ?_
          refine w_istore_n (n := 37) (lv' := [(2, .int (nI ((c + 0)))), (0, .ref (gb_ad G 49)), (1, .int (nI (m))), (3, .int (nI (i)))]) O dX7_given_36 rfl (by decide) rfl rfl ?_
          refine w_iincN (n := 40) (lv' := [(3, .int (nI (i + 1))), (2, .int (nI ((c + 0)))), (0, .ref (gb_ad G 49)), (1, .int (nI (m)))]) O dX7_given_37 rfl (by decide) rfl rfl ?_
          refine w_goto (tgt := 4) O dX7_given_40 (by decide) ?_
          refine w_lv (lv2 := [(0, .ref (gb_ad G 49)), (1, .int (nI (m))), (2, .int (nI ((c + 0)))), (3, .int (nI (i + 1)))]) [2, 3, 1, 0] rfl ?_
          exact ih_LA _ (by omega) (i + 1) ((c + 0)) rfl (by omega) (by rw [hc]; unfold mAmtI; simp only [sSum]; simp [*])
        · skip
          refine w_aload_n (n := 27) O dX7_given_26 rfl rfl rfl ?_
          refine w_iload_n (n := 28) O dX7_given_27 rfl rfl rfl ?_
          refine w_cV (n := 31) (ro := some (.int (nI (gGv T lo li to tm i)))) (R := fun mM' => mM = mM') (st := [.int (nI (c))]) (st1 := [.int (nI (gGv T lo li to tm i)), .int (nI (c))]) (As := [.int (nI (i))]) (b := 49) O dX7_given_28 ul_X7_169 um_X7_gives (f_X7_gives (s := s) (T := T) (lo := lo) (li := li) (to := to) (tm := tm) hW hV ok hto htm hlo hli (by omega) ⟨rfl, rfl⟩) rfl (by omega) h49 rfl rfl rfl rfl (by decide) (Nat.le_of_ble_eq_true rfl) rfl (fun mhM_3 hM_3 => ?_)
          subst hM_3
          refine w_goto (tgt := 35) O dX7_given_31 (by decide) ?_
          refine w_iaddN (n := 36) O dX7_given_35 rfl ?_
          refine w_istore_n (n := 37) (lv' := [(2, .int (nI ((c + (gGv T lo li to tm i))))), (0, .ref (gb_ad G 49)), (1, .int (nI (m))), (3, .int (nI (i)))]) O dX7_given_36 rfl (by decide) rfl rfl ?_
          refine w_iincN (n := 40) (lv' := [(3, .int (nI (i + 1))), (2, .int (nI ((c + (gGv T lo li to tm i))))), (0, .ref (gb_ad G 49)), (1, .int (nI (m)))]) O dX7_given_37 rfl (by decide) rfl rfl ?_
          refine w_goto (tgt := 4) O dX7_given_40 (by decide) ?_
          refine w_lv (lv2 := [(0, .ref (gb_ad G 49)), (1, .int (nI (m))), (2, .int (nI ((c + (gGv T lo li to tm i))))), (3, .int (nI (i + 1)))]) [2, 3, 1, 0] rfl ?_
          exact ih_LA _ (by omega) (i + 1) ((c + (gGv T lo li to tm i))) rfl (by omega) (by rw [hc]; unfold mAmtI; simp only [sSum]; simp [*])
  refine w_lv (lv2 := [(0, .ref (gb_ad G 49)), (1, .int (nI (m))), (2, .int (nI 0)), (3, .int (nI 0))]) [2, 3, 1, 0] rfl ?_
  exact LA _ 0 0 rfl (Nat.zero_le _) rfl
theorem f_X7_given0 {G : gb_G} (hW : gW G) {Q : Option Value → gb_M → Prop} {mM : gb_M} {s : Nat → Nat} {T : Tw} {tm : Nat} (hV : isV G mM s T 0 0 none tm) (ok : okT T) (htm : tm ≤ 40) {m : Nat} (hm : m < 4) (hQ : Q (some (.int (nI (mAmt T (tGives T) m)))) mM) : Fn G 3 yX7_given cX7_given 4 (some .int) [.ref (gb_ad G 49), .int (nI (m))] mM Q :=
  f_X7_given hW hV ok (fun k hk => by cases hk) htm (by decide) (by decide) hm (by rw [gGv_0]; exact hQ)
set_option maxRecDepth 100000 in
set_option maxHeartbeats 4000000 in
theorem f_X7_inBell {G : gb_G} (hW : gW G) {Q : Option Value → gb_M → Prop} {mM : gb_M} {s : Nat → Nat} {T : Tw} {lo li : Nat} {to : Option Nat} {tm : Nat} (hV : isV G mM s T lo li to tm) (ok : okT T) (hto : ∀ k, to = some k → k < 4) (htm : tm ≤ 40) (hlo : lo < 16) (hli : li < 16) {m : Nat} (hm : m < 3)  (hQ : Q (some (.int (nI (mBell T (gGv T lo li to tm) m)))) mM) : Fn G 4 yX7_inBell cX7_inBell 3 (some .int) [.ref (gb_ad G 49), .int (nI (m))] mM Q := by
  obtain ⟨h50, hpg, x3, x4, x5, x6, x7, x9, x10, x11, x12, x13, x14, x15, x16, x24, x26, x31, h49⟩ := hV
  have hV : isV G mM s T lo li to tm := ⟨h50, hpg, x3, x4, x5, x6, x7, x9, x10, x11, x12, x13, x14, x15, x16, x24, x26, x31, h49⟩
  have hn4 := ok.1
  have hN := hW.2.2.1
  refine Fn.of hW.1 [(0, .ref (gb_ad G 49)), (1, .int (nI (m)))] (by decide) (Nat.le_of_ble_eq_true rfl) rfl ?_
  intro X O
  have hpo := okP_gGv ok lo li htm (to := to)
  have hma : mAmt T (gGv T lo li to tm) m ≤ 160 := mAmtI_le hpo hn4
  have hk2 := ok.2.2.1 m hm
  have hk3 := ok.2.2.2.2.2
  refine w_aload_n (n := 1) O dX7_inBell_0 rfl rfl rfl ?_
  refine w_iload_n (n := 2) O dX7_inBell_1 rfl rfl rfl ?_
  refine w_cV (n := 5) (ro := some (.int (nI (mAmt T (gGv T lo li to tm) m)))) (R := fun mM' => mM = mM') (st := []) (st1 := [.int (nI (mAmt T (gGv T lo li to tm) m))]) (As := [.int (nI (m))]) (b := 49) O dX7_inBell_2 ul_X7_172 um_X7_given (f_X7_given (s := s) (T := T) (lo := lo) (li := li) (to := to) (tm := tm) hW hV ok hto htm hlo hli (by omega) ⟨rfl, rfl⟩) rfl (by omega) h49 rfl rfl rfl rfl (by decide) (Nat.le_of_ble_eq_true rfl) rfl (fun mhM_1 hM_1 => ?_)
  subst hM_1
  refine w_aload_n (n := 6) O dX7_inBell_5 rfl rfl rfl ?_
  refine w_getf (n := 9) O 0 dX7_inBell_6 (by omega) h49 rfl (by decide) uX7 uf_X7_7 rfl rfl ?_
  refine w_bipush (n := 11) O dX7_inBell_9 (v := (nI 21)) (by decide) rfl ?_
  refine w_iload_n (n := 12) O dX7_inBell_11 rfl rfl rfl ?_
  refine w_iaddN (n := 13) O dX7_inBell_12 rfl ?_
  refine w_ialdP (n := 14) (v := T.2.1 m) O dX7_inBell_13 hW.2.1 (by omega) h50 (by omega) (by decide) (by omega) (hpg.2.2.1 m (by omega)).1 rfl ?_
  refine w_iaddN (n := 15) O dX7_inBell_14 rfl ?_
  refine w_aload_n (n := 16) O dX7_inBell_15 rfl rfl rfl ?_
  refine w_getf (n := 19) O 0 dX7_inBell_16 (by omega) h49 rfl (by decide) uX7 uf_X7_7 rfl rfl ?_
  refine w_bipush (n := 21) O dX7_inBell_19 (v := (nI 27)) (by decide) rfl ?_
  refine w_iload_n (n := 22) O dX7_inBell_21 rfl rfl rfl ?_
  refine w_iaddN (n := 23) O dX7_inBell_22 rfl ?_
  refine w_ialdP (n := 24) (v := T.2.2.1 m) O dX7_inBell_23 hW.2.1 (by omega) h50 (by omega) (by decide) (by omega) (hpg.2.2.1 m (by omega)).2 rfl ?_
  refine w_isub (n := 25) O dX7_inBell_24 rfl ?_
  refine w_istore_n (n := 26) (lv' := [(2, .int (((nI (((mAmt T (gGv T lo li to tm) m) + (T.2.1 m)))) - (nI (T.2.2.1 m))))), (0, .ref (gb_ad G 49)), (1, .int (nI (m)))]) O dX7_inBell_25 rfl (by decide) rfl rfl ?_
  refine w_iload_n (n := 27) O dX7_inBell_26 rfl rfl rfl ?_
  refine w_if_ge (n := 30) (tgt := 34) O dX7_inBell_27 (by decide) rfl (fun c_2 => ?_) (fun c_2 => ?_)
  · skip
    rw [sub_ge (by omega) c_2]
    refine w_iload_n (n := 35) O dX7_inBell_34 rfl rfl rfl ?_
    refine w_iret O dX7_inBell_35 ?_
    have e : mBell T (gGv T lo li to tm) m = mAmt T (gGv T lo li to tm) m + T.2.1 m - T.2.2.1 m := rfl
    rw [e] at hQ
    exact hQ
  · skip
    refine w_iconst (n := 31) O dX7_inBell_30 (v := (nI 0)) (by decide) rfl ?_
    refine w_goto (tgt := 35) O dX7_inBell_31 (by decide) ?_
    refine w_iret O dX7_inBell_35 ?_
    have e : mBell T (gGv T lo li to tm) m = 0 := sub_lt (by omega) c_2
    rw [e] at hQ
    exact hQ
theorem f_X7_inBell0 {G : gb_G} (hW : gW G) {Q : Option Value → gb_M → Prop} {mM : gb_M} {s : Nat → Nat} {T : Tw} {tm : Nat} (hV : isV G mM s T 0 0 none tm) (ok : okT T) (htm : tm ≤ 40) {m : Nat} (hm : m < 3) (hQ : Q (some (.int (nI (bAm T m)))) mM) : Fn G 4 yX7_inBell cX7_inBell 3 (some .int) [.ref (gb_ad G 49), .int (nI (m))] mM Q :=
  f_X7_inBell hW hV ok (fun k hk => by cases hk) htm (by decide) (by decide) hm (by rw [gGv_0, ← show bAm T m = mBell T (tGives T) m from if_pos hm]; exact hQ)
set_option maxRecDepth 100000 in
set_option maxHeartbeats 4000000 in
theorem f_X7_weight {G : gb_G} (hW : gW G) {Q : Option Value → gb_M → Prop} {mM : gb_M} {s : Nat → Nat} {T : Tw} {lo li : Nat} {to : Option Nat} {tm : Nat} (hV : isV G mM s T lo li to tm) (ok : okT T) (hto : ∀ k, to = some k → k < 4) (htm : tm ≤ 40) (hlo : lo < 16) (hli : li < 16)  (hQ : Q (some (.int (nI (mWt T (gGv T lo li to tm))))) mM) : Fn G 5 yX7_weight cX7_weight 1 (some .int) [.ref (gb_ad G 49)] mM Q := by
  obtain ⟨h50, hpg, x3, x4, x5, x6, x7, x9, x10, x11, x12, x13, x14, x15, x16, x24, x26, x31, h49⟩ := hV
  have hV : isV G mM s T lo li to tm := ⟨h50, hpg, x3, x4, x5, x6, x7, x9, x10, x11, x12, x13, x14, x15, x16, x24, x26, x31, h49⟩
  have hn4 := ok.1
  have hN := hW.2.2.1
  refine Fn.of hW.1 [(0, .ref (gb_ad G 49))] (by decide) (Nat.le_of_ble_eq_true rfl) rfl ?_
  intro X O
  refine w_aload_n (n := 1) O dX7_weight_0 rfl rfl rfl ?_
  refine w_iconst (n := 2) O dX7_weight_1 (v := (nI 0)) (by decide) rfl ?_
  refine w_cV (n := 5) (ro := some (.int (nI (mBell T (gGv T lo li to tm) 0)))) (R := fun mM' => mM = mM') (st := []) (st1 := [.int (nI (mBell T (gGv T lo li to tm) 0))]) (As := [.int (nI 0)]) (b := 49) O dX7_weight_2 ul_X7_175 um_X7_inBell (f_X7_inBell (s := s) (T := T) (lo := lo) (li := li) (to := to) (tm := tm) hW hV ok hto htm hlo hli (by omega) ⟨rfl, rfl⟩) rfl (by omega) h49 rfl rfl rfl rfl (by decide) (Nat.le_of_ble_eq_true rfl) rfl (fun mhM_1 hM_1 => ?_)
  subst hM_1
  refine w_aload_n (n := 6) O dX7_weight_5 rfl rfl rfl ?_
  refine w_iconst (n := 7) O dX7_weight_6 (v := (nI 1)) (by decide) rfl ?_
  refine w_cV (n := 10) (ro := some (.int (nI (mBell T (gGv T lo li to tm) 1)))) (R := fun mM' => mM = mM') (st := [.int (nI (mBell T (gGv T lo li to tm) 0))]) (st1 := [.int (nI (mBell T (gGv T lo li to tm) 1)), .int (nI (mBell T (gGv T lo li to tm) 0))]) (As := [.int (nI 1)]) (b := 49) O dX7_weight_7 ul_X7_175 um_X7_inBell (f_X7_inBell (s := s) (T := T) (lo := lo) (li := li) (to := to) (tm := tm) hW hV ok hto htm hlo hli (by omega) ⟨rfl, rfl⟩) rfl (by omega) h49 rfl rfl rfl rfl (by decide) (Nat.le_of_ble_eq_true rfl) rfl (fun mhM_2 hM_2 => ?_)
  subst hM_2
  refine w_iaddN (n := 11) O dX7_weight_10 rfl ?_
  refine w_aload_n (n := 12) O dX7_weight_11 rfl rfl rfl ?_
  refine w_iconst (n := 13) O dX7_weight_12 (v := (nI 2)) (by decide) rfl ?_
  refine w_cV (n := 16) (ro := some (.int (nI (mBell T (gGv T lo li to tm) 2)))) (R := fun mM' => mM = mM') (st := [.int (nI (((mBell T (gGv T lo li to tm) 0) + (mBell T (gGv T lo li to tm) 1))))]) (st1 := [.int (nI (mBell T (gGv T lo li to tm) 2)), .int (nI (((mBell T (gGv T lo li to tm) 0) + (mBell T (gGv T lo li to tm) 1))))]) (As := [.int (nI 2)]) (b := 49) O dX7_weight_13 ul_X7_175 um_X7_inBell (f_X7_inBell (s := s) (T := T) (lo := lo) (li := li) (to := to) (tm := tm) hW hV ok hto htm hlo hli (by omega) ⟨rfl, rfl⟩) rfl (by omega) h49 rfl rfl rfl rfl (by decide) (Nat.le_of_ble_eq_true rfl) rfl (fun mhM_3 hM_3 => ?_)
  subst hM_3
  refine w_iaddN (n := 17) O dX7_weight_16 rfl ?_
  refine w_iret O dX7_weight_17 ?_
  have e : mWt T (gGv T lo li to tm) = (((mBell T (gGv T lo li to tm) 0) + (mBell T (gGv T lo li to tm) 1)) + (mBell T (gGv T lo li to tm) 2)) := by unfold mWt; simp only [sSum]; omega
  rw [e] at hQ
  exact hQ
theorem f_X7_weight0 {G : gb_G} (hW : gW G) {Q : Option Value → gb_M → Prop} {mM : gb_M} {s : Nat → Nat} {T : Tw} {tm : Nat} (hV : isV G mM s T 0 0 none tm) (ok : okT T) (htm : tm ≤ 40) (hQ : Q (some (.int (nI (bWt T)))) mM) : Fn G 5 yX7_weight cX7_weight 1 (some .int) [.ref (gb_ad G 49)] mM Q :=
  f_X7_weight hW hV ok (fun k hk => by cases hk) htm (by decide) (by decide) (by rw [gGv_0]; exact hQ)
set_option maxRecDepth 100000 in
set_option maxHeartbeats 4000000 in
theorem f_X7_note {G : gb_G} (hW : gW G) {Q : Option Value → gb_M → Prop} {mM : gb_M} {s : Nat → Nat} {T : Tw} {lo li : Nat} {to : Option Nat} {tm : Nat} (hV : isV G mM s T lo li to tm) (ok : okT T) (hto : ∀ k, to = some k → k < 4) (htm : tm ≤ 40) (hlo : lo < 16) (hli : li < 16)  (hQ : Q (some (.int (oI (pNote (mAm T (gGv T lo li to tm)) (mWt T (gGv T lo li to tm)))))) mM) : Fn G 6 yX7_note cX7_note 2 (some .int) [.ref (gb_ad G 49)] mM Q := by
  obtain ⟨h50, hpg, x3, x4, x5, x6, x7, x9, x10, x11, x12, x13, x14, x15, x16, x24, x26, x31, h49⟩ := hV
  have hV : isV G mM s T lo li to tm := ⟨h50, hpg, x3, x4, x5, x6, x7, x9, x10, x11, x12, x13, x14, x15, x16, x24, x26, x31, h49⟩
  have hn4 := ok.1
  have hN := hW.2.2.1
  refine Fn.of hW.1 [(0, .ref (gb_ad G 49))] (by decide) (Nat.le_of_ble_eq_true rfl) rfl ?_
  intro X O
  have hpo := okP_gGv ok lo li htm (to := to)
  have hw6 : mWt T (gGv T lo li to tm) ≤ 600 := mWt_le ok hpo (Nat.le_refl 3)
  have hb0 := mBell_le ok hpo (show 0 < 3 by decide)
  have hb1 := mBell_le ok hpo (show 1 < 3 by decide)
  have hb2 := mBell_le ok hpo (show 2 < 3 by decide)
  refine w_aload_n (n := 1) O dX7_note_0 rfl rfl rfl ?_
  refine w_cV (n := 4) (ro := some (.int (nI (mWt T (gGv T lo li to tm))))) (R := fun mM' => mM = mM') (st := []) (st1 := [.int (nI (mWt T (gGv T lo li to tm)))]) (As := []) (b := 49) O dX7_note_1 ul_X7_178 um_X7_weight (f_X7_weight (s := s) (T := T) (lo := lo) (li := li) (to := to) (tm := tm) hW hV ok hto htm hlo hli  ⟨rfl, rfl⟩) rfl (by omega) h49 rfl rfl rfl rfl (by decide) (Nat.le_of_ble_eq_true rfl) rfl (fun mhM_1 hM_1 => ?_)
  subst hM_1
  refine w_istore_n (n := 5) (lv' := [(1, .int (nI (mWt T (gGv T lo li to tm)))), (0, .ref (gb_ad G 49))]) O dX7_note_4 rfl (by decide) rfl rfl ?_
  refine w_iload_n (n := 6) O dX7_note_5 rfl rfl rfl ?_
  refine w_if_neN (n := 9) (tgt := 14) O dX7_note_6 (by omega) (by decide) rfl (fun c_2 => ?_) (fun c_2 => ?_)
  · skip
    refine w_bipush (n := 16) O dX7_note_14 (v := (nI 12)) (by decide) rfl ?_
    refine w_aload_n (n := 17) O dX7_note_16 rfl rfl rfl ?_
    refine w_iconst (n := 18) O dX7_note_17 (v := (nI 0)) (by decide) rfl ?_
    refine w_cV (n := 21) (ro := some (.int (nI (mBell T (gGv T lo li to tm) 0)))) (R := fun mM' => mM = mM') (st := [.int (nI 12)]) (st1 := [.int (nI (mBell T (gGv T lo li to tm) 0)), .int (nI 12)]) (As := [.int (nI 0)]) (b := 49) O dX7_note_18 ul_X7_175 um_X7_inBell (f_X7_inBell (s := s) (T := T) (lo := lo) (li := li) (to := to) (tm := tm) hW hV ok hto htm hlo hli (by omega) ⟨rfl, rfl⟩) rfl (by omega) h49 rfl rfl rfl rfl (by decide) (Nat.le_of_ble_eq_true rfl) rfl (fun mhM_3 hM_3 => ?_)
    subst hM_3
    refine w_imulN (n := 22) O dX7_note_21 rfl ?_
    refine w_bipush (n := 24) O dX7_note_22 (v := (nI 6)) (by decide) rfl ?_
    refine w_aload_n (n := 25) O dX7_note_24 rfl rfl rfl ?_
    refine w_iconst (n := 26) O dX7_note_25 (v := (nI 1)) (by decide) rfl ?_
    refine w_cV (n := 29) (ro := some (.int (nI (mBell T (gGv T lo li to tm) 1)))) (R := fun mM' => mM = mM') (st := [.int (nI 6), .int (nI ((12 * (mBell T (gGv T lo li to tm) 0))))]) (st1 := [.int (nI (mBell T (gGv T lo li to tm) 1)), .int (nI 6), .int (nI ((12 * (mBell T (gGv T lo li to tm) 0))))]) (As := [.int (nI 1)]) (b := 49) O dX7_note_26 ul_X7_175 um_X7_inBell (f_X7_inBell (s := s) (T := T) (lo := lo) (li := li) (to := to) (tm := tm) hW hV ok hto htm hlo hli (by omega) ⟨rfl, rfl⟩) rfl (by omega) h49 rfl rfl rfl rfl (by decide) (Nat.le_of_ble_eq_true rfl) rfl (fun mhM_4 hM_4 => ?_)
    subst hM_4
    refine w_imulN (n := 30) O dX7_note_29 rfl ?_
    refine w_iaddN (n := 31) O dX7_note_30 rfl ?_
    refine w_iconst (n := 32) O dX7_note_31 (v := (nI 3)) (by decide) rfl ?_
    refine w_aload_n (n := 33) O dX7_note_32 rfl rfl rfl ?_
    refine w_iconst (n := 34) O dX7_note_33 (v := (nI 2)) (by decide) rfl ?_
    refine w_cV (n := 37) (ro := some (.int (nI (mBell T (gGv T lo li to tm) 2)))) (R := fun mM' => mM = mM') (st := [.int (nI 3), .int (nI (((12 * (mBell T (gGv T lo li to tm) 0)) + (6 * (mBell T (gGv T lo li to tm) 1)))))]) (st1 := [.int (nI (mBell T (gGv T lo li to tm) 2)), .int (nI 3), .int (nI (((12 * (mBell T (gGv T lo li to tm) 0)) + (6 * (mBell T (gGv T lo li to tm) 1)))))]) (As := [.int (nI 2)]) (b := 49) O dX7_note_34 ul_X7_175 um_X7_inBell (f_X7_inBell (s := s) (T := T) (lo := lo) (li := li) (to := to) (tm := tm) hW hV ok hto htm hlo hli (by omega) ⟨rfl, rfl⟩) rfl (by omega) h49 rfl rfl rfl rfl (by decide) (Nat.le_of_ble_eq_true rfl) rfl (fun mhM_5 hM_5 => ?_)
    subst hM_5
    refine w_imulN (n := 38) O dX7_note_37 rfl ?_
    refine w_iaddN (n := 39) O dX7_note_38 rfl ?_
    refine w_iload_n (n := 40) O dX7_note_39 rfl rfl rfl ?_
    refine w_idivN (n := 41) O dX7_note_40 (by omega) (by omega) (by omega) rfl ?_
    refine w_iret O dX7_note_41 ?_
    have e : pNote (mAm T (gGv T lo li to tm)) (mWt T (gGv T lo li to tm)) = some ((((12 * (mBell T (gGv T lo li to tm) 0)) + (6 * (mBell T (gGv T lo li to tm) 1))) + (3 * (mBell T (gGv T lo li to tm) 2))) / (mWt T (gGv T lo li to tm))) := if_neg c_2
    rw [e] at hQ
    exact hQ
  · skip
    refine w_bipush (n := 11) O dX7_note_9 (v := (-4)) (by decide) rfl ?_
    refine w_goto (tgt := 41) O dX7_note_11 (by decide) ?_
    refine w_iret O dX7_note_41 ?_
    have e : pNote (mAm T (gGv T lo li to tm)) (mWt T (gGv T lo li to tm)) = none := if_pos c_2
    rw [e] at hQ
    exact hQ
theorem f_X7_note0 {G : gb_G} (hW : gW G) {Q : Option Value → gb_M → Prop} {mM : gb_M} {s : Nat → Nat} {T : Tw} {tm : Nat} (hV : isV G mM s T 0 0 none tm) (ok : okT T) (htm : tm ≤ 40) (hQ : Q (some (.int (oI (pNote (bAm T) (bWt T))))) mM) : Fn G 6 yX7_note cX7_note 2 (some .int) [.ref (gb_ad G 49)] mM Q :=
  f_X7_note hW hV ok (fun k hk => by cases hk) htm (by decide) (by decide) (by rw [gGv_0]; exact hQ)
set_option maxRecDepth 100000 in
set_option maxHeartbeats 4000000 in
theorem f_X7_sweet {G : gb_G} (hW : gW G) {Q : Option Value → gb_M → Prop} {mM : gb_M} {s : Nat → Nat} {T : Tw} {lo li : Nat} {to : Option Nat} {tm : Nat} (hV : isV G mM s T lo li to tm) (ok : okT T) (hto : ∀ k, to = some k → k < 4) (htm : tm ≤ 40) (hlo : lo < 16) (hli : li < 16)  (hQ : Q (some (.int (nI (pSweet (mAm T (gGv T lo li to tm)) (mWt T (gGv T lo li to tm)))))) mM) : Fn G 6 yX7_sweet cX7_sweet 2 (some .int) [.ref (gb_ad G 49)] mM Q := by
  obtain ⟨h50, hpg, x3, x4, x5, x6, x7, x9, x10, x11, x12, x13, x14, x15, x16, x24, x26, x31, h49⟩ := hV
  have hV : isV G mM s T lo li to tm := ⟨h50, hpg, x3, x4, x5, x6, x7, x9, x10, x11, x12, x13, x14, x15, x16, x24, x26, x31, h49⟩
  have hn4 := ok.1
  have hN := hW.2.2.1
  refine Fn.of hW.1 [(0, .ref (gb_ad G 49))] (by decide) (Nat.le_of_ble_eq_true rfl) rfl ?_
  intro X O
  have hpo := okP_gGv ok lo li htm (to := to)
  have hw6 : mWt T (gGv T lo li to tm) ≤ 600 := mWt_le ok hpo (Nat.le_refl 3)
  have hb0 := mBell_le ok hpo (show 0 < 3 by decide)
  have hb1 := mBell_le ok hpo (show 1 < 3 by decide)
  have hb2 := mBell_le ok hpo (show 2 < 3 by decide)
  refine w_aload_n (n := 1) O dX7_sweet_0 rfl rfl rfl ?_
  refine w_cV (n := 4) (ro := some (.int (nI (mWt T (gGv T lo li to tm))))) (R := fun mM' => mM = mM') (st := []) (st1 := [.int (nI (mWt T (gGv T lo li to tm)))]) (As := []) (b := 49) O dX7_sweet_1 ul_X7_178 um_X7_weight (f_X7_weight (s := s) (T := T) (lo := lo) (li := li) (to := to) (tm := tm) hW hV ok hto htm hlo hli  ⟨rfl, rfl⟩) rfl (by omega) h49 rfl rfl rfl rfl (by decide) (Nat.le_of_ble_eq_true rfl) rfl (fun mhM_1 hM_1 => ?_)
  subst hM_1
  refine w_istore_n (n := 5) (lv' := [(1, .int (nI (mWt T (gGv T lo li to tm)))), (0, .ref (gb_ad G 49))]) O dX7_sweet_4 rfl (by decide) rfl rfl ?_
  refine w_iload_n (n := 6) O dX7_sweet_5 rfl rfl rfl ?_
  refine w_if_neN (n := 9) (tgt := 13) O dX7_sweet_6 (by omega) (by decide) rfl (fun c_2 => ?_) (fun c_2 => ?_)
  · skip
    refine w_bipush (n := 15) O dX7_sweet_13 (v := (nI 10)) (by decide) rfl ?_
    refine w_aload_n (n := 16) O dX7_sweet_15 rfl rfl rfl ?_
    refine w_iconst (n := 17) O dX7_sweet_16 (v := (nI 2)) (by decide) rfl ?_
    refine w_cV (n := 20) (ro := some (.int (nI (mBell T (gGv T lo li to tm) 2)))) (R := fun mM' => mM = mM') (st := [.int (nI 10)]) (st1 := [.int (nI (mBell T (gGv T lo li to tm) 2)), .int (nI 10)]) (As := [.int (nI 2)]) (b := 49) O dX7_sweet_17 ul_X7_175 um_X7_inBell (f_X7_inBell (s := s) (T := T) (lo := lo) (li := li) (to := to) (tm := tm) hW hV ok hto htm hlo hli (by omega) ⟨rfl, rfl⟩) rfl (by omega) h49 rfl rfl rfl rfl (by decide) (Nat.le_of_ble_eq_true rfl) rfl (fun mhM_3 hM_3 => ?_)
    subst hM_3
    refine w_imulN (n := 21) O dX7_sweet_20 rfl ?_
    refine w_iload_n (n := 22) O dX7_sweet_21 rfl rfl rfl ?_
    refine w_idivN (n := 23) O dX7_sweet_22 (by omega) (by omega) (by omega) rfl ?_
    refine w_iret O dX7_sweet_23 ?_
    have e : pSweet (mAm T (gGv T lo li to tm)) (mWt T (gGv T lo li to tm)) = ((10 * (mBell T (gGv T lo li to tm) 2)) / (mWt T (gGv T lo li to tm))) := if_neg c_2
    rw [e] at hQ
    exact hQ
  · skip
    refine w_iconst (n := 10) O dX7_sweet_9 (v := (nI 0)) (by decide) rfl ?_
    refine w_goto (tgt := 23) O dX7_sweet_10 (by decide) ?_
    refine w_iret O dX7_sweet_23 ?_
    have e : pSweet (mAm T (gGv T lo li to tm)) (mWt T (gGv T lo li to tm)) = 0 := if_pos c_2
    rw [e] at hQ
    exact hQ
theorem f_X7_sweet0 {G : gb_G} (hW : gW G) {Q : Option Value → gb_M → Prop} {mM : gb_M} {s : Nat → Nat} {T : Tw} {tm : Nat} (hV : isV G mM s T 0 0 none tm) (ok : okT T) (htm : tm ≤ 40) (hQ : Q (some (.int (nI (pSweet (bAm T) (bWt T))))) mM) : Fn G 6 yX7_sweet cX7_sweet 2 (some .int) [.ref (gb_ad G 49)] mM Q :=
  f_X7_sweet hW hV ok (fun k hk => by cases hk) htm (by decide) (by decide) (by rw [gGv_0]; exact hQ)
set_option maxRecDepth 100000 in
set_option maxHeartbeats 4000000 in
theorem f_X7_rings {G : gb_G} (hW : gW G) {Q : Option Value → gb_M → Prop} {mM : gb_M} {s : Nat → Nat} {T : Tw} {lo li : Nat} {to : Option Nat} {tm : Nat} (hV : isV G mM s T lo li to tm) (ok : okT T) (hto : ∀ k, to = some k → k < 4) (htm : tm ≤ 40) (hlo : lo < 16) (hli : li < 16)  (hQ : Q (some (.int (bI (pTrue T (mAm T (gGv T lo li to tm)) (mWt T (gGv T lo li to tm)))))) mM) : Fn G 7 yX7_rings cX7_rings 1 (some .boolean) [.ref (gb_ad G 49)] mM Q := by
  obtain ⟨h50, hpg, x3, x4, x5, x6, x7, x9, x10, x11, x12, x13, x14, x15, x16, x24, x26, x31, h49⟩ := hV
  have hV : isV G mM s T lo li to tm := ⟨h50, hpg, x3, x4, x5, x6, x7, x9, x10, x11, x12, x13, x14, x15, x16, x24, x26, x31, h49⟩
  have hn4 := ok.1
  have hN := hW.2.2.1
  refine Fn.of hW.1 [(0, .ref (gb_ad G 49))] (by decide) (Nat.le_of_ble_eq_true rfl) rfl ?_
  intro X O
  have hpo := okP_gGv ok lo li htm (to := to)
  have hw6 : mWt T (gGv T lo li to tm) ≤ 600 := mWt_le ok hpo (Nat.le_refl 3)
  have hb0 := mBell_le ok hpo (show 0 < 3 by decide)
  have hb1 := mBell_le ok hpo (show 1 < 3 by decide)
  have hb2 := mBell_le ok hpo (show 2 < 3 by decide)
  have hk4 := ok.2.2.2.1
  have hk5 := ok.2.2.2.2.1
  have hps : pSweet (mAm T (gGv T lo li to tm)) (mWt T (gGv T lo li to tm)) ≤ 2000 := pSweet_le (fun m _ => mAm_le ok hpo m)
  refine w_aload_n (n := 1) O dX7_rings_0 rfl rfl rfl ?_
  refine w_cV (n := 4) (ro := some (.int (oI (pNote (mAm T (gGv T lo li to tm)) (mWt T (gGv T lo li to tm)))))) (R := fun mM' => mM = mM') (st := []) (st1 := [.int (oI (pNote (mAm T (gGv T lo li to tm)) (mWt T (gGv T lo li to tm))))]) (As := []) (b := 49) O dX7_rings_1 ul_X7_181 um_X7_note (f_X7_note (s := s) (T := T) (lo := lo) (li := li) (to := to) (tm := tm) hW hV ok hto htm hlo hli  ⟨rfl, rfl⟩) rfl (by omega) h49 rfl rfl rfl rfl (by decide) (Nat.le_of_ble_eq_true rfl) rfl (fun mhM_1 hM_1 => ?_)
  subst hM_1
  refine w_aload_n (n := 5) O dX7_rings_4 rfl rfl rfl ?_
  refine w_cV (n := 8) (ro := some (.int (nI (T.2.2.2.2.1)))) (R := fun mM' => mM = mM') (st := [.int (oI (pNote (mAm T (gGv T lo li to tm)) (mWt T (gGv T lo li to tm))))]) (st1 := [.int (nI (T.2.2.2.2.1)), .int (oI (pNote (mAm T (gGv T lo li to tm)) (mWt T (gGv T lo li to tm))))]) (As := []) (b := 49) O dX7_rings_5 ul_X7_144 um_X7_asked (f_X7_asked (s := s) (T := T) (lo := lo) (li := li) (to := to) (tm := tm) hW hV ok  ⟨rfl, rfl⟩) rfl (by omega) h49 rfl rfl rfl rfl (by decide) (Nat.le_of_ble_eq_true rfl) rfl (fun mhM_2 hM_2 => ?_)
  subst hM_2
  refine w_icmp_ne (n := 11) (tgt := 29) O dX7_rings_8 (by decide) rfl (fun c_3 => ?_) (fun c_3 => ?_)
  · skip
    refine w_iconst (n := 30) O dX7_rings_29 (v := (nI 0)) (by decide) rfl ?_
    refine w_zret O dX7_rings_30 (by decide) ?_
    have e : pTrue T (mAm T (gGv T lo li to tm)) (mWt T (gGv T lo li to tm)) = false := by unfold pTrue; rw [decide_eq_false (fun z => c_3 ((oI_eq (fun k hk => by have := pNote_le (fun m _ => mAm_le ok hpo m) hk; omega) (by omega)).mpr z))]; rfl
    rw [e] at hQ
    exact hQ
  · skip
    refine w_aload_n (n := 12) O dX7_rings_11 rfl rfl rfl ?_
    refine w_cV (n := 15) (ro := some (.int (nI (pSweet (mAm T (gGv T lo li to tm)) (mWt T (gGv T lo li to tm)))))) (R := fun mM' => mM = mM') (st := []) (st1 := [.int (nI (pSweet (mAm T (gGv T lo li to tm)) (mWt T (gGv T lo li to tm))))]) (As := []) (b := 49) O dX7_rings_12 ul_X7_184 um_X7_sweet (f_X7_sweet (s := s) (T := T) (lo := lo) (li := li) (to := to) (tm := tm) hW hV ok hto htm hlo hli  ⟨rfl, rfl⟩) rfl (by omega) h49 rfl rfl rfl rfl (by decide) (Nat.le_of_ble_eq_true rfl) rfl (fun mhM_4 hM_4 => ?_)
    subst hM_4
    refine w_aload_n (n := 16) O dX7_rings_15 rfl rfl rfl ?_
    refine w_getf (n := 19) O 0 dX7_rings_16 (by omega) h49 rfl (by decide) uX7 uf_X7_7 rfl rfl ?_
    refine w_bipush (n := 21) O dX7_rings_19 (v := (nI 25)) (by decide) rfl ?_
    refine w_ialdP (n := 22) (v := T.2.2.2.2.2.1) O dX7_rings_21 hW.2.1 (by omega) h50 (by omega) (by decide) (by omega) hpg.2.2.2.2.1 rfl ?_
    refine w_icmp_ltN (n := 25) (tgt := 29) O dX7_rings_22 (by omega) (by omega) (by decide) rfl (fun c_5 => ?_) (fun c_5 => ?_)
    · skip
      refine w_iconst (n := 30) O dX7_rings_29 (v := (nI 0)) (by decide) rfl ?_
      refine w_zret O dX7_rings_30 (by decide) ?_
      have e : pTrue T (mAm T (gGv T lo li to tm)) (mWt T (gGv T lo li to tm)) = false := by unfold pTrue; rw [decide_eq_false (p := T.2.2.2.2.2.1 ≤ pSweet (mAm T (gGv T lo li to tm)) (mWt T (gGv T lo li to tm))) (by omega), Bool.and_false]
      rw [e] at hQ
      exact hQ
    · skip
      refine w_iconst (n := 26) O dX7_rings_25 (v := (nI 1)) (by decide) rfl ?_
      refine w_goto (tgt := 30) O dX7_rings_26 (by decide) ?_
      refine w_zret O dX7_rings_30 (by decide) ?_
      have e : pTrue T (mAm T (gGv T lo li to tm)) (mWt T (gGv T lo li to tm)) = true := by unfold pTrue; rw [decide_eq_true ((oI_eq (fun k hk => by have := pNote_le (fun m _ => mAm_le ok hpo m) hk; omega) (by omega)).mp c_3), decide_eq_true (by omega)]; rfl
      rw [e] at hQ
      exact hQ
theorem f_X7_rings0 {G : gb_G} (hW : gW G) {Q : Option Value → gb_M → Prop} {mM : gb_M} {s : Nat → Nat} {T : Tw} {tm : Nat} (hV : isV G mM s T 0 0 none tm) (ok : okT T) (htm : tm ≤ 40) (hQ : Q (some (.int (bI (tTrue T)))) mM) : Fn G 7 yX7_rings cX7_rings 1 (some .boolean) [.ref (gb_ad G 49)] mM Q :=
  f_X7_rings hW hV ok (fun k hk => by cases hk) htm (by decide) (by decide) (by rw [gGv_0]; exact hQ)
set_option maxRecDepth 100000 in
set_option maxHeartbeats 4000000 in
theorem f_X7_flaws {G : gb_G} (hW : gW G) {Q : Option Value → gb_M → Prop} {mM : gb_M} {s : Nat → Nat} {T : Tw} {tm : Nat} (hV : isV G mM s T 0 0 none tm) (ok : okT T) (htm : tm ≤ 40)  (hQ : Q (some (.int (nI (sBits (fun g => decide (tGives T g < tShare T g)) T.2.2.2.1)))) mM) : Fn G 3 yX7_flaws cX7_flaws 3 (some .int) [.ref (gb_ad G 49)] mM Q := by
  obtain ⟨h50, hpg, x3, x4, x5, x6, x7, x9, x10, x11, x12, x13, x14, x15, x16, x24, x26, x31, h49⟩ := hV
  have hV : isV G mM s T 0 0 none tm := ⟨h50, hpg, x3, x4, x5, x6, x7, x9, x10, x11, x12, x13, x14, x15, x16, x24, x26, x31, h49⟩
  have hn4 := ok.1
  have hN := hW.2.2.1
  refine Fn.of hW.1 [(0, .ref (gb_ad G 49))] (by decide) (Nat.le_of_ble_eq_true rfl) rfl ?_
  intro X O
  refine w_iconst (n := 1) O dX7_flaws_0 (v := (nI 0)) (by decide) rfl ?_
  refine w_istore_n (n := 2) (lv' := [(1, .int (nI 0)), (0, .ref (gb_ad G 49))]) O dX7_flaws_1 rfl (by decide) rfl rfl ?_
  refine w_iconst (n := 3) O dX7_flaws_2 (v := (nI 0)) (by decide) rfl ?_
  refine w_istore_n (n := 4) (lv' := [(2, .int (nI 0)), (1, .int (nI 0)), (0, .ref (gb_ad G 49))]) O dX7_flaws_3 rfl (by decide) rfl rfl ?_
  have LA : ∀ (k : Nat) (i c : Nat), T.2.2.2.1 - i = k → i ≤ T.2.2.2.1 → c = sBits (fun g => decide (tGives T g < tShare T g)) i → Wm G X 3 Q 4 [(0, .ref (gb_ad G 49)), (1, .int (nI (c))), (2, .int (nI (i)))] [] mM := by
    intro k
    induction k using Nat.strongRecOn with
    | ind k ih_LA =>
      intro i c hk hi hc
      have hcl : c < 2 ^ i := by rw [hc]; exact sBits_lt _ i
      refine w_iload_n (n := 5) O dX7_flaws_4 rfl rfl rfl ?_
      refine w_aload_n (n := 6) O dX7_flaws_5 rfl rfl rfl ?_
      refine w_getf (n := 9) O 1 dX7_flaws_6 (by omega) h49 rfl (by decide) uX7 uf_X7_136 rfl rfl ?_
      refine w_icmp_geN (n := 12) (tgt := 41) O dX7_flaws_9 (by omega) (by omega) (by decide) rfl (fun c_1 => ?_) (fun c_1 => ?_)
      · skip
        refine w_iload_n (n := 42) O dX7_flaws_41 rfl rfl rfl ?_
        refine w_iret O dX7_flaws_42 ?_
        rw [show T.2.2.2.1 = i by omega, ← hc] at hQ
        exact hQ
      · skip
        have hq1 := tGives_le ok (show i < 4 by omega)
        have hq2 := tShare_le ok (show i < 4 by omega)
        refine w_iload_n (n := 13) O dX7_flaws_12 rfl rfl rfl ?_
        refine w_aload_n (n := 14) O dX7_flaws_13 rfl rfl rfl ?_
        refine w_iload_n (n := 15) O dX7_flaws_14 rfl rfl rfl ?_
        refine w_cV (n := 18) (ro := some (.int (nI (tGives T i)))) (R := fun mM' => mM = mM') (st := [.int (nI (c))]) (st1 := [.int (nI (tGives T i)), .int (nI (c))]) (As := [.int (nI (i))]) (b := 49) O dX7_flaws_15 ul_X7_169 um_X7_gives (f_X7_gives0 (s := s) (T := T) (tm := tm) hW hV ok htm (by omega) ⟨rfl, rfl⟩) rfl (by omega) h49 rfl rfl rfl rfl (by decide) (Nat.le_of_ble_eq_true rfl) rfl (fun mhM_2 hM_2 => ?_)
        subst hM_2
        refine w_aload_n (n := 19) O dX7_flaws_18 rfl rfl rfl ?_
        refine w_iload_n (n := 20) O dX7_flaws_19 rfl rfl rfl ?_
        refine w_cV (n := 23) (ro := some (.int (nI (tShare T i)))) (R := fun mM' => mM = mM') (st := [.int (nI (tGives T i)), .int (nI (c))]) (st1 := [.int (nI (tShare T i)), .int (nI (tGives T i)), .int (nI (c))]) (As := [.int (nI (i))]) (b := 49) O dX7_flaws_20 ul_X7_153 um_X7_whole (f_X7_whole (s := s) (T := T) (lo := 0) (li := 0) (to := none) (tm := tm) hW hV ok (by omega) ⟨rfl, rfl⟩) rfl (by omega) h49 rfl rfl rfl rfl (by decide) (Nat.le_of_ble_eq_true rfl) rfl (fun mhM_3 hM_3 => ?_)
        subst hM_3
        refine w_icmp_geN (n := 26) (tgt := 32) O dX7_flaws_23 (by omega) (by omega) (by decide) rfl (fun c_4 => ?_) (fun c_4 => ?_)
        · skip
          refine w_iconst (n := 33) O dX7_flaws_32 (v := (nI 0)) (by decide) rfl ?_
          refine w_ior (n := 34) O dX7_flaws_33 rfl ?_
          refine w_top (nI c) (by rw [nI_or, Nat.or_zero]) ?_
          refine w_istore_n (n := 35) (lv' := [(1, .int (nI (c))), (0, .ref (gb_ad G 49)), (2, .int (nI (i)))]) O dX7_flaws_34 rfl (by decide) rfl rfl ?_
          refine w_iincN (n := 38) (lv' := [(2, .int (nI (i + 1))), (1, .int (nI (c))), (0, .ref (gb_ad G 49))]) O dX7_flaws_35 rfl (by decide) rfl rfl ?_
          refine w_goto (tgt := 4) O dX7_flaws_38 (by decide) ?_
          refine w_lv (lv2 := [(0, .ref (gb_ad G 49)), (1, .int (nI (c))), (2, .int (nI (i + 1)))]) [2, 1, 0] rfl ?_
          exact ih_LA _ (by omega) (i + 1) (c) rfl (by omega) (by simp [sBits, *])
        · skip
          refine w_iconst (n := 27) O dX7_flaws_26 (v := (nI 1)) (by decide) rfl ?_
          refine w_iload_n (n := 28) O dX7_flaws_27 rfl rfl rfl ?_
          refine w_ishl (n := 29) O dX7_flaws_28 rfl ?_
          refine w_goto (tgt := 33) O dX7_flaws_29 (by decide) ?_
          refine w_ior (n := 34) O dX7_flaws_33 rfl ?_
          refine w_top (nI (c + 2 ^ i)) (nI_orbit hcl (by omega)) ?_
          refine w_istore_n (n := 35) (lv' := [(1, .int (nI (c + 2 ^ i))), (0, .ref (gb_ad G 49)), (2, .int (nI (i)))]) O dX7_flaws_34 rfl (by decide) rfl rfl ?_
          refine w_iincN (n := 38) (lv' := [(2, .int (nI (i + 1))), (1, .int (nI (c + 2 ^ i))), (0, .ref (gb_ad G 49))]) O dX7_flaws_35 rfl (by decide) rfl rfl ?_
          refine w_goto (tgt := 4) O dX7_flaws_38 (by decide) ?_
          refine w_lv (lv2 := [(0, .ref (gb_ad G 49)), (1, .int (nI (c + 2 ^ i))), (2, .int (nI (i + 1)))]) [2, 1, 0] rfl ?_
          exact ih_LA _ (by omega) (i + 1) (c + 2 ^ i) rfl (by omega) (by simp [sBits, *])
  refine w_lv (lv2 := [(0, .ref (gb_ad G 49)), (1, .int (nI 0)), (2, .int (nI 0))]) [2, 1, 0] rfl ?_
  exact LA _ 0 0 rfl (Nat.zero_le _) rfl
set_option maxRecDepth 100000 in
set_option maxHeartbeats 4000000 in
theorem f_X7_taps {G : gb_G} (hW : gW G) {Q : Option Value → gb_M → Prop} {mM : gb_M} {s : Nat → Nat} {T : Tw} {tm : Nat} (hV : isV G mM s T 0 0 none tm) (ok : okT T) (htm : tm ≤ 40) {j : Nat} (hj : j ≤ 8)  (hQ : Q (some (.int (nI (tTap T j)))) mM) : Fn G 6 yX7_taps cX7_taps 4 (some .int) [.ref (gb_ad G 49), .int (nI (j))] mM Q := by
  obtain ⟨h50, hpg, x3, x4, x5, x6, x7, x9, x10, x11, x12, x13, x14, x15, x16, x24, x26, x31, h49⟩ := hV
  have hV : isV G mM s T 0 0 none tm := ⟨h50, hpg, x3, x4, x5, x6, x7, x9, x10, x11, x12, x13, x14, x15, x16, x24, x26, x31, h49⟩
  have hn4 := ok.1
  have hN := hW.2.2.1
  refine Fn.of hW.1 [(0, .ref (gb_ad G 49)), (1, .int (nI (j)))] (by decide) (Nat.le_of_ble_eq_true rfl) rfl ?_
  intro X O
  have hwb := bWt_le ok
  refine w_iload_n (n := 1) O dX7_taps_0 rfl rfl rfl ?_
  refine w_aload_n (n := 2) O dX7_taps_1 rfl rfl rfl ?_
  refine w_cV (n := 5) (ro := some (.int (nI (bWt T)))) (R := fun mM' => mM = mM') (st := [.int (nI (j))]) (st1 := [.int (nI (bWt T)), .int (nI (j))]) (As := []) (b := 49) O dX7_taps_2 ul_X7_178 um_X7_weight (f_X7_weight0 (s := s) (T := T) (tm := tm) hW hV ok htm  ⟨rfl, rfl⟩) rfl (by omega) h49 rfl rfl rfl rfl (by decide) (Nat.le_of_ble_eq_true rfl) rfl (fun mhM_1 hM_1 => ?_)
  subst hM_1
  refine w_imulN (n := 6) O dX7_taps_5 rfl ?_
  refine w_istore_n (n := 7) (lv' := [(2, .int (nI ((j * (bWt T))))), (0, .ref (gb_ad G 49)), (1, .int (nI (j)))]) O dX7_taps_6 rfl (by decide) rfl rfl ?_
  refine w_iconst (n := 8) O dX7_taps_7 (v := (nI 0)) (by decide) rfl ?_
  refine w_istore_n (n := 9) (lv' := [(3, .int (nI 0)), (2, .int (nI ((j * (bWt T))))), (0, .ref (gb_ad G 49)), (1, .int (nI (j)))]) O dX7_taps_8 rfl (by decide) rfl rfl ?_
  have LT : ∀ (k : Nat) (i c : Nat), T.2.2.2.1 - i = k → i ≤ T.2.2.2.1 → c = j * bWt T + sSum (fun g => tGives T g * (1 + (j + g) % 3)) i → c ≤ 4800 + i * 63 → Wm G X 4 Q 9 [(0, .ref (gb_ad G 49)), (1, .int (nI (j))), (2, .int (nI (c))), (3, .int (nI (i)))] [] mM := by
    intro k
    induction k using Nat.strongRecOn with
    | ind k ih_LT =>
      intro i c hk hi hc hcl
      refine w_iload_n (n := 10) O dX7_taps_9 rfl rfl rfl ?_
      refine w_aload_n (n := 11) O dX7_taps_10 rfl rfl rfl ?_
      refine w_getf (n := 14) O 1 dX7_taps_11 (by omega) h49 rfl (by decide) uX7 uf_X7_136 rfl rfl ?_
      refine w_icmp_geN (n := 17) (tgt := 39) O dX7_taps_14 (by omega) (by omega) (by decide) rfl (fun c_2 => ?_) (fun c_2 => ?_)
      · skip
        refine w_iload_n (n := 40) O dX7_taps_39 rfl rfl rfl ?_
        refine w_bipush (n := 42) O dX7_taps_40 (v := (nI 10)) (by decide) rfl ?_
        refine w_iremN (n := 43) O dX7_taps_42 (by omega) (by omega) (by omega) rfl ?_
        refine w_iret O dX7_taps_43 ?_
        have e : tTap T j = (c % 10) := by unfold tTap; rw [hc, show i = T.2.2.2.1 by omega]
        rw [e] at hQ
        exact hQ
      · skip
        have hgl := tGives_le ok (show i < 4 by omega)
        have hml : tGives T i * (1 + (j + i) % 3) ≤ 63 := Nat.le_trans (Nat.mul_le_mul hgl (show 1 + (j + i) % 3 ≤ 3 by omega)) (by decide)
        refine w_iload_n (n := 18) O dX7_taps_17 rfl rfl rfl ?_
        refine w_aload_n (n := 19) O dX7_taps_18 rfl rfl rfl ?_
        refine w_iload_n (n := 20) O dX7_taps_19 rfl rfl rfl ?_
        refine w_cV (n := 23) (ro := some (.int (nI (tGives T i)))) (R := fun mM' => mM = mM') (st := [.int (nI (c))]) (st1 := [.int (nI (tGives T i)), .int (nI (c))]) (As := [.int (nI (i))]) (b := 49) O dX7_taps_20 ul_X7_169 um_X7_gives (f_X7_gives0 (s := s) (T := T) (tm := tm) hW hV ok htm (by omega) ⟨rfl, rfl⟩) rfl (by omega) h49 rfl rfl rfl rfl (by decide) (Nat.le_of_ble_eq_true rfl) rfl (fun mhM_3 hM_3 => ?_)
        subst hM_3
        refine w_iconst (n := 24) O dX7_taps_23 (v := (nI 1)) (by decide) rfl ?_
        refine w_iload_n (n := 25) O dX7_taps_24 rfl rfl rfl ?_
        refine w_iload_n (n := 26) O dX7_taps_25 rfl rfl rfl ?_
        refine w_iaddN (n := 27) O dX7_taps_26 rfl ?_
        refine w_iconst (n := 28) O dX7_taps_27 (v := (nI 3)) (by decide) rfl ?_
        refine w_iremN (n := 29) O dX7_taps_28 (by omega) (by omega) (by omega) rfl ?_
        refine w_iaddN (n := 30) O dX7_taps_29 rfl ?_
        refine w_imulN (n := 31) O dX7_taps_30 rfl ?_
        refine w_iaddN (n := 32) O dX7_taps_31 rfl ?_
        refine w_istore_n (n := 33) (lv' := [(2, .int (nI ((c + ((tGives T i) * (1 + ((j + i) % 3))))))), (0, .ref (gb_ad G 49)), (1, .int (nI (j))), (3, .int (nI (i)))]) O dX7_taps_32 rfl (by decide) rfl rfl ?_
        refine w_iincN (n := 36) (lv' := [(3, .int (nI (i + 1))), (2, .int (nI ((c + ((tGives T i) * (1 + ((j + i) % 3))))))), (0, .ref (gb_ad G 49)), (1, .int (nI (j)))]) O dX7_taps_33 rfl (by decide) rfl rfl ?_
        refine w_goto (tgt := 9) O dX7_taps_36 (by decide) ?_
        refine w_lv (lv2 := [(0, .ref (gb_ad G 49)), (1, .int (nI (j))), (2, .int (nI ((c + ((tGives T i) * (1 + ((j + i) % 3))))))), (3, .int (nI (i + 1)))]) [2, 3, 1, 0] rfl ?_
        exact ih_LT _ (by omega) (i + 1) ((c + ((tGives T i) * (1 + ((j + i) % 3))))) rfl (by omega) (by rw [hc]; simp only [sSum]; omega) (by rw [Nat.succ_mul]; omega)
  refine w_lv (lv2 := [(0, .ref (gb_ad G 49)), (1, .int (nI (j))), (2, .int (nI ((j * (bWt T))))), (3, .int (nI 0))]) [2, 3, 1, 0] rfl ?_
  exact LT _ 0 (j * bWt T) rfl (Nat.zero_le _) (by simp [sSum]) (by have := Nat.mul_le_mul hj (bWt_le ok); omega)
