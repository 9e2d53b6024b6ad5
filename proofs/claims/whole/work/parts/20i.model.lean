set_option maxRecDepth 100000 in
set_option maxHeartbeats 4000000 in
theorem f_X7_byLies {G : gb_G} (hW : gW G) {Q : Option Value → gb_M → Prop} {mM : gb_M} {s : Nat → Nat} {T : Tw} {tm : Nat} (hV : isV G mM s T 0 0 none tm) (ok : okT T) (htm : tm ≤ 40) {v w : Nat} {isW : Bool} (hv10 : v ≤ 10) (hw1 : w ≤ 1)  (hQ : ∀ M', (∀ k, M' k = mM k) → Q (some (.long (lN (fracN (lieS T v isW (2 ^ T.2.2.2.1)) (10 ^ T.2.2.2.1) w)))) M') : Fn G 8 yX7_byLies cX7_byLies 12 (some .long) [.ref (gb_ad G 49), .int (nI (v)), .int (bI (isW)), .int (nI (w))] mM Q := by
  obtain ⟨h50, hpg, x3, x4, x5, x6, x7, x9, x10, x11, x12, x13, x14, x15, x16, x24, x26, x31, h49⟩ := hV
  have hV : isV G mM s T 0 0 none tm := ⟨h50, hpg, x3, x4, x5, x6, x7, x9, x10, x11, x12, x13, x14, x15, x16, x24, x26, x31, h49⟩
  have hn4 := ok.1
  have hN := hW.2.2.1
  refine Fn.of hW.1 [(0, .ref (gb_ad G 49)), (1, .int (nI (v))), (2, .int (bI (isW))), (3, .int (nI (w)))] (by decide) (Nat.le_of_ble_eq_true rfl) rfl ?_
  intro X O
  refine w_lconst (n := 1) O dX7_byLies_0 (v := lN 0) (by decide) rfl ?_
  refine w_lstore (n := 3) (lv' := [(4, .long (lN 0)), (0, .ref (gb_ad G 49)), (1, .int (nI (v))), (2, .int (bI (isW))), (3, .int (nI (w)))]) O dX7_byLies_1 (by decide) rfl rfl ?_
  refine w_lconst (n := 4) O dX7_byLies_3 (v := lN 1) (by decide) rfl ?_
  refine w_lstore (n := 6) (lv' := [(6, .long (lN 1)), (4, .long (lN 0)), (0, .ref (gb_ad G 49)), (1, .int (nI (v))), (2, .int (bI (isW))), (3, .int (nI (w)))]) O dX7_byLies_4 (by decide) rfl rfl ?_
  refine w_iconst (n := 7) O dX7_byLies_6 (v := (nI 0)) (by decide) rfl ?_
  refine w_istore (n := 9) (lv' := [(8, .int (nI 0)), (6, .long (lN 1)), (4, .long (lN 0)), (0, .ref (gb_ad G 49)), (1, .int (nI (v))), (2, .int (bI (isW))), (3, .int (nI (w)))]) O dX7_byLies_7 (by decide) rfl rfl ?_
  have B1 : ∀ (k : Nat) (i dn : Nat), T.2.2.2.1 - i = k → i ≤ T.2.2.2.1 → dn = 10 ^ i → Wm G X 12 Q 9 [(0, .ref (gb_ad G 49)), (1, .int (nI (v))), (2, .int (bI (isW))), (3, .int (nI (w))), (4, .long (lN 0)), (6, .long (lN dn)), (8, .int (nI (i)))] [] mM := by
    intro k
    induction k using Nat.strongRecOn with
    | ind k ih_B1 =>
      intro i dn hk hi hdn
      refine w_iload (n := 11) O dX7_byLies_9 rfl rfl ?_
      refine w_aload_n (n := 12) O dX7_byLies_11 rfl rfl rfl ?_
      refine w_getf (n := 15) O 1 dX7_byLies_12 (by omega) h49 rfl (by decide) uX7 uf_X7_136 rfl rfl ?_
      refine w_icmp_geN (n := 18) (tgt := 32) O dX7_byLies_15 (by omega) (by omega) (by decide) rfl (fun c_1 => ?_) (fun c_1 => ?_)
      · skip
        have hdn2 : dn = 10 ^ T.2.2.2.1 := by rw [hdn, show i = T.2.2.2.1 by omega]
        have hdn4 : dn ≤ 10000 := by rw [hdn2]; exact Nat.pow_le_pow_right (by decide) hn4
        have hdn0 : 0 < dn := by rw [hdn2]; exact Nat.pow_pos (by decide)
        have hp16 := pow4 hn4
        refine w_iconst (n := 33) O dX7_byLies_32 (v := (nI 0)) (by decide) rfl ?_
        refine w_istore (n := 35) (lv' := [(8, .int (nI 0)), (0, .ref (gb_ad G 49)), (1, .int (nI (v))), (2, .int (bI (isW))), (3, .int (nI (w))), (4, .long (lN 0)), (6, .long (lN dn))]) O dX7_byLies_33 (by decide) rfl rfl ?_
        have B2 : ∀ (k : Nat) (ks up : Nat) (m1 : gb_M) (li1 : Nat), 2 ^ T.2.2.2.1 - ks = k → ks ≤ 2 ^ T.2.2.2.1 → up = lieS T v isW ks → m1 49 = (.inr (7, [.ref (gb_ad G 50), .int (nI (T.2.2.2.1)), .ref (gb_ad G 51), .int (x3), .int (x4), .int (x5), .int (x6), .int (x7), .ref (gb_ad G 52), .int (x9), .int (x10), .int (x11), .int (x12), .int (x13), .int (x14), .int (x15), .int (x16), .ref (gb_ad G 53), .ref (gb_ad G 54), .int (nI 0), .int (nI (li1)), .int (oI none), .int (nI (tm)), .ref (gb_ad G 55), .int (x24), .ref (gb_ad G 56), .int (x26), .ref (gb_ad G 57), .ref (gb_ad G 58), .ref (gb_ad G 59), .ref (gb_ad G 60), .int (x31)])) → sm mM m1 49 49 → Wm G X 12 Q 35 [(0, .ref (gb_ad G 49)), (1, .int (nI (v))), (2, .int (bI (isW))), (3, .int (nI (w))), (4, .long (lN up)), (6, .long (lN dn)), (8, .int (nI (ks)))] [] m1 := by
          intro k
          induction k using Nat.strongRecOn with
          | ind k ih_B2 =>
            intro ks up m1 li1 hk hks hup h491 hs1
            refine w_iload (n := 37) O dX7_byLies_35 rfl rfl ?_
            refine w_iconst (n := 38) O dX7_byLies_37 (v := (nI 1)) (by decide) rfl ?_
            refine w_aload_n (n := 39) O dX7_byLies_38 rfl rfl rfl ?_
            refine w_getf (n := 42) O 1 dX7_byLies_39 (by omega) h491 rfl (by decide) uX7 uf_X7_136 rfl rfl ?_
            refine w_ishl (n := 43) O dX7_byLies_42 rfl ?_
            refine w_top (nI (2 ^ T.2.2.2.1)) (shl1 (by omega)) ?_
            refine w_icmp_geN (n := 46) (tgt := 137) O dX7_byLies_43 (by omega) (by omega) (by decide) rfl (fun c_2 => ?_) (fun c_2 => ?_)
            · skip
              have hup2 : up ≤ 96000000 := by rw [hup]; exact lieS_le ok hv10 isW (by omega)
              refine w_aload_n (n := 138) O dX7_byLies_137 rfl rfl rfl ?_
              refine w_iconst (n := 139) O dX7_byLies_138 (v := (nI 0)) (by decide) rfl ?_
              refine w_putf (n := 142) (fs' := [.ref (gb_ad G 50), .int (nI (T.2.2.2.1)), .ref (gb_ad G 51), .int (x3), .int (x4), .int (x5), .int (x6), .int (x7), .ref (gb_ad G 52), .int (x9), .int (x10), .int (x11), .int (x12), .int (x13), .int (x14), .int (x15), .int (x16), .ref (gb_ad G 53), .ref (gb_ad G 54), .int (nI 0), .int (nI 0), .int (oI none), .int (nI (tm)), .ref (gb_ad G 55), .int (x24), .ref (gb_ad G 56), .int (x26), .ref (gb_ad G 57), .ref (gb_ad G 58), .ref (gb_ad G 59), .ref (gb_ad G 60), .int (x31)]) O 20 dX7_byLies_139 (by omega) h491 rfl (by decide) uX7 uf_X7_159 tyX7 tyX7_ok nmX7 rfl rfl rfl (Nat.le_of_ble_eq_true rfl) rfl rfl ?_
              refine w_lload (n := 144) O dX7_byLies_142 rfl rfl ?_
              refine w_lload (n := 146) O dX7_byLies_144 rfl rfl ?_
              refine w_iload_n (n := 147) O dX7_byLies_146 rfl rfl rfl ?_
              refine w_cS (n := 150) (ro := some (.long (lN (fracN up dn w)))) (R := fun mM' => (va_up m1 (49) (.inr (7, [.ref (gb_ad G 50), .int (nI (T.2.2.2.1)), .ref (gb_ad G 51), .int (x3), .int (x4), .int (x5), .int (x6), .int (x7), .ref (gb_ad G 52), .int (x9), .int (x10), .int (x11), .int (x12), .int (x13), .int (x14), .int (x15), .int (x16), .ref (gb_ad G 53), .ref (gb_ad G 54), .int (nI 0), .int (nI 0), .int (oI none), .int (nI (tm)), .ref (gb_ad G 55), .int (x24), .ref (gb_ad G 56), .int (x26), .ref (gb_ad G 57), .ref (gb_ad G 58), .ref (gb_ad G 59), .ref (gb_ad G 60), .int (x31)]))) = mM') (st := []) (st1 := [.long (lN (fracN up dn w))]) (As := [.long (lN up), .long (lN dn), .int (nI (w))]) O dX7_byLies_147 ul_X7_237 um_X7_lowest (f_X7_lowest hW (by omega) (by omega) (by omega) (by omega) ⟨rfl, rfl⟩) rfl rfl rfl (by decide) (Nat.le_of_ble_eq_true rfl) rfl (fun mhM_3 hM_3 => ?_)
              subst hM_3
              refine w_lret O dX7_byLies_150 ?_
              have eks : ks = 2 ^ T.2.2.2.1 := by omega
              rw [← eks, ← hup, ← hdn2] at hQ
              exact hQ _ (fun k => by by_cases e : k = 49; (rw [e]; exact (va_up_self _ _ _).trans h49.symm); exact (show sm mM _ 49 49 from ((sm.rf.tr (hs1.mono (by omega) (by omega))).up (by omega) (by omega))) k (by omega))
            · skip
              refine w_lconst (n := 47) O dX7_byLies_46 (v := lN 1) (by decide) rfl ?_
              refine w_lstore (n := 49) (lv' := [(9, .long (lN 1)), (0, .ref (gb_ad G 49)), (1, .int (nI (v))), (2, .int (bI (isW))), (3, .int (nI (w))), (4, .long (lN up)), (6, .long (lN dn)), (8, .int (nI (ks)))]) O dX7_byLies_47 (by decide) rfl rfl ?_
              refine w_iconst (n := 50) O dX7_byLies_49 (v := (nI 0)) (by decide) rfl ?_
              refine w_istore (n := 52) (lv' := [(11, .int (nI 0)), (9, .long (lN 1)), (0, .ref (gb_ad G 49)), (1, .int (nI (v))), (2, .int (bI (isW))), (3, .int (nI (w))), (4, .long (lN up)), (6, .long (lN dn)), (8, .int (nI (ks)))]) O dX7_byLies_50 (by decide) rfl rfl ?_
              have B3 : ∀ (k : Nat) (i od : Nat), T.2.2.2.1 - i = k → i ≤ T.2.2.2.1 → od = sProd (lieW v ks) i → Wm G X 12 Q 52 [(0, .ref (gb_ad G 49)), (1, .int (nI (v))), (2, .int (bI (isW))), (3, .int (nI (w))), (4, .long (lN up)), (6, .long (lN dn)), (8, .int (nI (ks))), (9, .long (lN od)), (11, .int (nI (i)))] [] m1 := by
                intro k
                induction k using Nat.strongRecOn with
                | ind k ih_B3 =>
                  intro i od hk hi hod
                  have hsl := sh_le ks i
                  refine w_iload (n := 54) O dX7_byLies_52 rfl rfl ?_
                  refine w_aload_n (n := 55) O dX7_byLies_54 rfl rfl rfl ?_
                  refine w_getf (n := 58) O 1 dX7_byLies_55 (by omega) h491 rfl (by decide) uX7 uf_X7_136 rfl rfl ?_
                  refine w_icmp_geN (n := 61) (tgt := 93) O dX7_byLies_58 (by omega) (by omega) (by decide) rfl (fun c_4 => ?_) (fun c_4 => ?_)
                  · skip
                    have hpw6 : mWt T (gGv T 0 ks none tm) ≤ 600 := mWt_le ok (okP_gGv ok 0 ks htm) (Nat.le_refl 3)
                    refine w_aload_n (n := 94) O dX7_byLies_93 rfl rfl rfl ?_
                    refine w_iload (n := 96) O dX7_byLies_94 rfl rfl ?_
                    refine w_putf (n := 99) (fs' := [.ref (gb_ad G 50), .int (nI (T.2.2.2.1)), .ref (gb_ad G 51), .int (x3), .int (x4), .int (x5), .int (x6), .int (x7), .ref (gb_ad G 52), .int (x9), .int (x10), .int (x11), .int (x12), .int (x13), .int (x14), .int (x15), .int (x16), .ref (gb_ad G 53), .ref (gb_ad G 54), .int (nI 0), .int (nI (ks)), .int (oI none), .int (nI (tm)), .ref (gb_ad G 55), .int (x24), .ref (gb_ad G 56), .int (x26), .ref (gb_ad G 57), .ref (gb_ad G 58), .ref (gb_ad G 59), .ref (gb_ad G 60), .int (x31)]) O 20 dX7_byLies_96 (by omega) h491 rfl (by decide) uX7 uf_X7_159 tyX7 tyX7_ok nmX7 rfl rfl rfl (Nat.le_of_ble_eq_true rfl) rfl rfl ?_
                    refine w_lload (n := 101) O dX7_byLies_99 rfl rfl ?_
                    refine w_lload (n := 103) O dX7_byLies_101 rfl rfl ?_
                    refine w_iload_n (n := 104) O dX7_byLies_103 rfl rfl rfl ?_
                    refine w_if_eqB (n := 107) (tgt := 114) O dX7_byLies_104 (by decide) rfl (fun c_5 => ?_) (fun c_5 => ?_)
                    · skip
                      refine w_aload_n (n := 115) O dX7_byLies_114 rfl rfl rfl ?_
                      refine w_cV (n := 118) (ro := some (.int (bI (pTrue T (mAm T (gGv T 0 ks none tm)) (mWt T (gGv T 0 ks none tm)))))) (R := fun mM' => (va_up m1 (49) (.inr (7, [.ref (gb_ad G 50), .int (nI (T.2.2.2.1)), .ref (gb_ad G 51), .int (x3), .int (x4), .int (x5), .int (x6), .int (x7), .ref (gb_ad G 52), .int (x9), .int (x10), .int (x11), .int (x12), .int (x13), .int (x14), .int (x15), .int (x16), .ref (gb_ad G 53), .ref (gb_ad G 54), .int (nI 0), .int (nI (ks)), .int (oI none), .int (nI (tm)), .ref (gb_ad G 55), .int (x24), .ref (gb_ad G 56), .int (x26), .ref (gb_ad G 57), .ref (gb_ad G 58), .ref (gb_ad G 59), .ref (gb_ad G 60), .int (x31)]))) = mM') (st := [.long (lN od), .long (lN up)]) (st1 := [.int (bI (pTrue T (mAm T (gGv T 0 ks none tm)) (mWt T (gGv T 0 ks none tm)))), .long (lN od), .long (lN up)]) (As := []) (b := 49) O dX7_byLies_115 ul_X7_190 um_X7_rings (f_X7_rings (s := s) (T := T) (lo := 0) (li := ks) (to := none) (tm := tm) hW ⟨((va_up_ne _ _ (by decide)).trans ((hs1 (50) (by omega)).trans h50)), hpg, _, _, _, _, _, _, _, _, _, _, _, _, _, _, _, _, (va_up_self _ _ _)⟩ ok (fun k hk => by cases hk) htm (by decide) (by omega)  ⟨rfl, rfl⟩) rfl (by omega) (va_up_self _ _ _) rfl rfl rfl rfl (by decide) (Nat.le_of_ble_eq_true rfl) rfl (fun mhM_6 hM_6 => ?_)
                      subst hM_6
                      refine w_if_eqB (n := 121) (tgt := 125) O dX7_byLies_118 (by decide) rfl (fun c_7 => ?_) (fun c_7 => ?_)
                      · skip
                        refine w_iconst (n := 126) O dX7_byLies_125 (v := (nI 0)) (by decide) rfl ?_
                        have hlv : lieV T isW ks = 0 := by unfold lieV; rw [if_neg (by rw [c_5]; decide), ← gGv_lie T ks tm, if_neg (by rw [c_7]; decide)]
                        refine w_i2lK (n := 127) O dX7_byLies_126 (by omega) rfl ?_
                        refine w_lmulK (n := 128) O dX7_byLies_127 rfl ?_
                        refine w_laddK (n := 129) O dX7_byLies_128 rfl ?_
                        refine w_lstore (n := 131) (lv' := [(4, .long (lN (up + (od * 0)))), (0, .ref (gb_ad G 49)), (1, .int (nI (v))), (2, .int (bI (isW))), (3, .int (nI (w))), (6, .long (lN dn)), (8, .int (nI (ks))), (9, .long (lN od)), (11, .int (nI (i)))]) O dX7_byLies_129 (by decide) rfl rfl ?_
                        refine w_iincN (n := 134) (lv' := [(8, .int (nI (ks + 1))), (4, .long (lN (up + (od * 0)))), (0, .ref (gb_ad G 49)), (1, .int (nI (v))), (2, .int (bI (isW))), (3, .int (nI (w))), (6, .long (lN dn)), (9, .long (lN od)), (11, .int (nI (i)))]) O dX7_byLies_131 rfl (by decide) rfl rfl ?_
                        refine w_goto (tgt := 35) O dX7_byLies_134 (by decide) ?_
                        refine w_lv (lv2 := [(0, .ref (gb_ad G 49)), (1, .int (nI (v))), (2, .int (bI (isW))), (3, .int (nI (w))), (4, .long (lN (up + (od * 0)))), (6, .long (lN dn)), (8, .int (nI (ks + 1)))]) [2, 3, 4, 5, 1, 6, 0] rfl ?_
                        exact ih_B2 _ (by omega) (ks + 1) ((up + (od * 0))) _ ks rfl (by omega) (by show _ = sSum _ (ks + 1); simp only [sSum]; rw [hlv, hup, hod, show i = T.2.2.2.1 by omega]; rfl) (va_up_self _ _ _) ((sm.rf.tr (hs1.mono (by omega) (by omega))).up (by omega) (by omega))
                      · skip
                        refine w_iconst (n := 122) O dX7_byLies_121 (v := (nI 1)) (by decide) rfl ?_
                        refine w_goto (tgt := 126) O dX7_byLies_122 (by decide) ?_
                        have hlv : lieV T isW ks = 1 := by unfold lieV; rw [if_neg (by rw [c_5]; decide), ← gGv_lie T ks tm, if_pos c_7]
                        refine w_i2lK (n := 127) O dX7_byLies_126 (by omega) rfl ?_
                        refine w_lmulK (n := 128) O dX7_byLies_127 rfl ?_
                        refine w_laddK (n := 129) O dX7_byLies_128 rfl ?_
                        refine w_lstore (n := 131) (lv' := [(4, .long (lN (up + (od * 1)))), (0, .ref (gb_ad G 49)), (1, .int (nI (v))), (2, .int (bI (isW))), (3, .int (nI (w))), (6, .long (lN dn)), (8, .int (nI (ks))), (9, .long (lN od)), (11, .int (nI (i)))]) O dX7_byLies_129 (by decide) rfl rfl ?_
                        refine w_iincN (n := 134) (lv' := [(8, .int (nI (ks + 1))), (4, .long (lN (up + (od * 1)))), (0, .ref (gb_ad G 49)), (1, .int (nI (v))), (2, .int (bI (isW))), (3, .int (nI (w))), (6, .long (lN dn)), (9, .long (lN od)), (11, .int (nI (i)))]) O dX7_byLies_131 rfl (by decide) rfl rfl ?_
                        refine w_goto (tgt := 35) O dX7_byLies_134 (by decide) ?_
                        refine w_lv (lv2 := [(0, .ref (gb_ad G 49)), (1, .int (nI (v))), (2, .int (bI (isW))), (3, .int (nI (w))), (4, .long (lN (up + (od * 1)))), (6, .long (lN dn)), (8, .int (nI (ks + 1)))]) [2, 3, 4, 5, 1, 6, 0] rfl ?_
                        exact ih_B2 _ (by omega) (ks + 1) ((up + (od * 1))) _ ks rfl (by omega) (by show _ = sSum _ (ks + 1); simp only [sSum]; rw [hlv, hup, hod, show i = T.2.2.2.1 by omega]; rfl) (va_up_self _ _ _) ((sm.rf.tr (hs1.mono (by omega) (by omega))).up (by omega) (by omega))
                    · skip
                      refine w_aload_n (n := 108) O dX7_byLies_107 rfl rfl rfl ?_
                      refine w_cV (n := 111) (ro := some (.int (nI (mWt T (gGv T 0 ks none tm))))) (R := fun mM' => (va_up m1 (49) (.inr (7, [.ref (gb_ad G 50), .int (nI (T.2.2.2.1)), .ref (gb_ad G 51), .int (x3), .int (x4), .int (x5), .int (x6), .int (x7), .ref (gb_ad G 52), .int (x9), .int (x10), .int (x11), .int (x12), .int (x13), .int (x14), .int (x15), .int (x16), .ref (gb_ad G 53), .ref (gb_ad G 54), .int (nI 0), .int (nI (ks)), .int (oI none), .int (nI (tm)), .ref (gb_ad G 55), .int (x24), .ref (gb_ad G 56), .int (x26), .ref (gb_ad G 57), .ref (gb_ad G 58), .ref (gb_ad G 59), .ref (gb_ad G 60), .int (x31)]))) = mM') (st := [.long (lN od), .long (lN up)]) (st1 := [.int (nI (mWt T (gGv T 0 ks none tm))), .long (lN od), .long (lN up)]) (As := []) (b := 49) O dX7_byLies_108 ul_X7_178 um_X7_weight (f_X7_weight (s := s) (T := T) (lo := 0) (li := ks) (to := none) (tm := tm) hW ⟨((va_up_ne _ _ (by decide)).trans ((hs1 (50) (by omega)).trans h50)), hpg, _, _, _, _, _, _, _, _, _, _, _, _, _, _, _, _, (va_up_self _ _ _)⟩ ok (fun k hk => by cases hk) htm (by decide) (by omega)  ⟨rfl, rfl⟩) rfl (by omega) (va_up_self _ _ _) rfl rfl rfl rfl (by decide) (Nat.le_of_ble_eq_true rfl) rfl (fun mhM_8 hM_8 => ?_)
                      subst hM_8
                      refine w_goto (tgt := 126) O dX7_byLies_111 (by decide) ?_
                      have hlv : lieV T isW ks = mWt T (gGv T 0 ks none tm) := by unfold lieV; rw [if_pos c_5, gGv_lie]
                      refine w_i2lK (n := 127) O dX7_byLies_126 (by omega) rfl ?_
                      refine w_lmulK (n := 128) O dX7_byLies_127 rfl ?_
                      refine w_laddK (n := 129) O dX7_byLies_128 rfl ?_
                      refine w_lstore (n := 131) (lv' := [(4, .long (lN (up + (od * (mWt T (gGv T 0 ks none tm)))))), (0, .ref (gb_ad G 49)), (1, .int (nI (v))), (2, .int (bI (isW))), (3, .int (nI (w))), (6, .long (lN dn)), (8, .int (nI (ks))), (9, .long (lN od)), (11, .int (nI (i)))]) O dX7_byLies_129 (by decide) rfl rfl ?_
                      refine w_iincN (n := 134) (lv' := [(8, .int (nI (ks + 1))), (4, .long (lN (up + (od * (mWt T (gGv T 0 ks none tm)))))), (0, .ref (gb_ad G 49)), (1, .int (nI (v))), (2, .int (bI (isW))), (3, .int (nI (w))), (6, .long (lN dn)), (9, .long (lN od)), (11, .int (nI (i)))]) O dX7_byLies_131 rfl (by decide) rfl rfl ?_
                      refine w_goto (tgt := 35) O dX7_byLies_134 (by decide) ?_
                      refine w_lv (lv2 := [(0, .ref (gb_ad G 49)), (1, .int (nI (v))), (2, .int (bI (isW))), (3, .int (nI (w))), (4, .long (lN (up + (od * (mWt T (gGv T 0 ks none tm)))))), (6, .long (lN dn)), (8, .int (nI (ks + 1)))]) [2, 3, 4, 5, 1, 6, 0] rfl ?_
                      exact ih_B2 _ (by omega) (ks + 1) ((up + (od * (mWt T (gGv T 0 ks none tm))))) _ ks rfl (by omega) (by show _ = sSum _ (ks + 1); simp only [sSum]; rw [hlv, hup, hod, show i = T.2.2.2.1 by omega]; rfl) (va_up_self _ _ _) ((sm.rf.tr (hs1.mono (by omega) (by omega))).up (by omega) (by omega))
                  · skip
                    refine w_lload (n := 63) O dX7_byLies_61 rfl rfl ?_
                    refine w_iload (n := 65) O dX7_byLies_63 rfl rfl ?_
                    refine w_iload (n := 67) O dX7_byLies_65 rfl rfl ?_
                    refine w_ishr (n := 68) O dX7_byLies_67 rfl ?_
                    refine w_top (nI (ks / 2 ^ i)) (nI_shr (by omega) (by omega)) ?_
                    refine w_iconst (n := 69) O dX7_byLies_68 (v := (nI 1)) (by decide) rfl ?_
                    refine w_iand (n := 70) O dX7_byLies_69 rfl ?_
                    refine w_top (nI ((ks / 2 ^ i) % 2)) (nI_and1 (by omega)) ?_
                    refine w_iconst (n := 71) O dX7_byLies_70 (v := (nI 1)) (by decide) rfl ?_
                    refine w_icmp_neN (n := 74) (tgt := 79) O dX7_byLies_71 (by omega) (by omega) (by decide) rfl (fun c_9 => ?_) (fun c_9 => ?_)
                    · skip
                      refine w_bipush (n := 81) O dX7_byLies_79 (v := (nI 10)) (by decide) rfl ?_
                      refine w_iload_n (n := 82) O dX7_byLies_81 rfl rfl rfl ?_
                      refine w_isubN (n := 83) O dX7_byLies_82 (by omega) rfl ?_
                      refine w_i2lK (n := 84) O dX7_byLies_83 (by omega) rfl ?_
                      refine w_lmulK (n := 85) O dX7_byLies_84 rfl ?_
                      refine w_lstore (n := 87) (lv' := [(9, .long (lN (od * (10 - v)))), (0, .ref (gb_ad G 49)), (1, .int (nI (v))), (2, .int (bI (isW))), (3, .int (nI (w))), (4, .long (lN up)), (6, .long (lN dn)), (8, .int (nI (ks))), (11, .int (nI (i)))]) O dX7_byLies_85 (by decide) rfl rfl ?_
                      refine w_iincN (n := 90) (lv' := [(11, .int (nI (i + 1))), (9, .long (lN (od * (10 - v)))), (0, .ref (gb_ad G 49)), (1, .int (nI (v))), (2, .int (bI (isW))), (3, .int (nI (w))), (4, .long (lN up)), (6, .long (lN dn)), (8, .int (nI (ks)))]) O dX7_byLies_87 rfl (by decide) rfl rfl ?_
                      refine w_goto (tgt := 52) O dX7_byLies_90 (by decide) ?_
                      refine w_lv (lv2 := [(0, .ref (gb_ad G 49)), (1, .int (nI (v))), (2, .int (bI (isW))), (3, .int (nI (w))), (4, .long (lN up)), (6, .long (lN dn)), (8, .int (nI (ks))), (9, .long (lN (od * (10 - v)))), (11, .int (nI (i + 1)))]) [2, 3, 4, 5, 6, 7, 8, 1, 0] rfl ?_
                      exact ih_B3 _ (by omega) (i + 1) ((od * (10 - v))) rfl (by omega) (by rw [hod]; simp only [sProd]; rw [show lieW v ks i = 10 - v from if_neg (by rw [show hasB ks i = false from decide_eq_false c_9]; decide)])
                    · skip
                      refine w_iload_n (n := 75) O dX7_byLies_74 rfl rfl rfl ?_
                      refine w_i2lK (n := 76) O dX7_byLies_75 (by omega) rfl ?_
                      refine w_goto (tgt := 84) O dX7_byLies_76 (by decide) ?_
                      refine w_lmulK (n := 85) O dX7_byLies_84 rfl ?_
                      refine w_lstore (n := 87) (lv' := [(9, .long (lN (od * v))), (0, .ref (gb_ad G 49)), (1, .int (nI (v))), (2, .int (bI (isW))), (3, .int (nI (w))), (4, .long (lN up)), (6, .long (lN dn)), (8, .int (nI (ks))), (11, .int (nI (i)))]) O dX7_byLies_85 (by decide) rfl rfl ?_
                      refine w_iincN (n := 90) (lv' := [(11, .int (nI (i + 1))), (9, .long (lN (od * v))), (0, .ref (gb_ad G 49)), (1, .int (nI (v))), (2, .int (bI (isW))), (3, .int (nI (w))), (4, .long (lN up)), (6, .long (lN dn)), (8, .int (nI (ks)))]) O dX7_byLies_87 rfl (by decide) rfl rfl ?_
                      refine w_goto (tgt := 52) O dX7_byLies_90 (by decide) ?_
                      refine w_lv (lv2 := [(0, .ref (gb_ad G 49)), (1, .int (nI (v))), (2, .int (bI (isW))), (3, .int (nI (w))), (4, .long (lN up)), (6, .long (lN dn)), (8, .int (nI (ks))), (9, .long (lN (od * v))), (11, .int (nI (i + 1)))]) [2, 3, 4, 5, 6, 7, 8, 1, 0] rfl ?_
                      exact ih_B3 _ (by omega) (i + 1) ((od * v)) rfl (by omega) (by rw [hod]; simp only [sProd]; rw [show lieW v ks i = v from if_pos (decide_eq_true c_9)])
              refine w_lv (lv2 := [(0, .ref (gb_ad G 49)), (1, .int (nI (v))), (2, .int (bI (isW))), (3, .int (nI (w))), (4, .long (lN up)), (6, .long (lN dn)), (8, .int (nI (ks))), (9, .long (lN 1)), (11, .int (nI 0))]) [2, 3, 4, 5, 6, 7, 8, 1, 0] rfl ?_
              exact B3 _ 0 1 rfl (Nat.zero_le _) rfl
        refine w_lv (lv2 := [(0, .ref (gb_ad G 49)), (1, .int (nI (v))), (2, .int (bI (isW))), (3, .int (nI (w))), (4, .long (lN 0)), (6, .long (lN dn)), (8, .int (nI 0))]) [1, 2, 3, 4, 5, 6, 0] rfl ?_
        exact B2 _ 0 0 mM 0 rfl (Nat.zero_le _) rfl h49 sm.rf
      · skip
        refine w_lload (n := 20) O dX7_byLies_18 rfl rfl ?_
        refine w_ldc2 (n := 23) O dX7_byLies_20 uc_X7_217 rfl ?_
        refine w_topl (lN 10) (by decide) ?_
        refine w_lmulK (n := 24) O dX7_byLies_23 rfl ?_
        refine w_lstore (n := 26) (lv' := [(6, .long (lN (dn * 10))), (0, .ref (gb_ad G 49)), (1, .int (nI (v))), (2, .int (bI (isW))), (3, .int (nI (w))), (4, .long (lN 0)), (8, .int (nI (i)))]) O dX7_byLies_24 (by decide) rfl rfl ?_
        refine w_iincN (n := 29) (lv' := [(8, .int (nI (i + 1))), (6, .long (lN (dn * 10))), (0, .ref (gb_ad G 49)), (1, .int (nI (v))), (2, .int (bI (isW))), (3, .int (nI (w))), (4, .long (lN 0))]) O dX7_byLies_26 rfl (by decide) rfl rfl ?_
        refine w_goto (tgt := 9) O dX7_byLies_29 (by decide) ?_
        refine w_lv (lv2 := [(0, .ref (gb_ad G 49)), (1, .int (nI (v))), (2, .int (bI (isW))), (3, .int (nI (w))), (4, .long (lN 0)), (6, .long (lN (dn * 10))), (8, .int (nI (i + 1)))]) [2, 3, 4, 5, 6, 1, 0] rfl ?_
        exact ih_B1 _ (by omega) (i + 1) ((dn * 10)) rfl (by omega) (by rw [hdn, Nat.pow_succ])
  refine w_lv (lv2 := [(0, .ref (gb_ad G 49)), (1, .int (nI (v))), (2, .int (bI (isW))), (3, .int (nI (w))), (4, .long (lN 0)), (6, .long (lN 1)), (8, .int (nI 0))]) [3, 4, 5, 6, 2, 1, 0] rfl ?_
  exact B1 _ 0 1 rfl (Nat.zero_le _) rfl
set_option maxRecDepth 100000 in
set_option maxHeartbeats 4000000 in
theorem f_X7_mean {G : gb_G} (hW : gW G) {Q : Option Value → gb_M → Prop} {mM : gb_M} {T : Tw} {im : Nat → Tw} {kp : Nat → Bool} {bs : Nat → Nat} {ln fa : Nat} {st sf : Nat → Nat} {sn : Nat} {sh : Sh} {sc : Nat → Nat → Int32} {tn : Nat} (hok : okS T im kp bs ln fa st sf sn sh tn) (hM : isMW G mM T im kp bs ln fa st sf sn sh sc tn) {v x : Int32}  (hQ : ∀ M', isMW G M' T im kp bs ln fa st sf sn sh sc tn → sm mM M' 49 60 → Q (some (.long (a_lies T true v x))) M') : Fn G 9 yX7_mean cX7_mean 3 (some .long) [.ref (gb_ad G 49), .int (v), .int (x)] mM Q := by
  obtain ⟨s, se, le, rp, te, la, ce, tm, x3, x4, x5, x6, x7, x11, x12, x13, x14, x15, x16, x26, h49, h50, h51, h52, h53, h54, h55, h56, h57, h58, h59, h60, htm, hpg, hIm, hSe, hLa, hLe, hCe⟩ := hM
  have ok := hok.1
  have hn4 := ok.1
  have hst9 := hok.2.1
  have hln := hok.2.2.2.1
  have hsn6 := hok.2.2.2.2.2.2.1
  have hN := hW.2.2.1
  refine Fn.of hW.1 [(0, .ref (gb_ad G 49)), (1, .int (v)), (2, .int (x))] (by decide) (Nat.le_of_ble_eq_true rfl) rfl ?_
  intro X O
  refine w_iload_n (n := 1) O dX7_mean_0 rfl rfl rfl ?_
  refine w_i2l (n := 2) O dX7_mean_1 rfl ?_
  refine w_lconst (n := 3) O dX7_mean_2 (v := lN 0) (by decide) rfl ?_
  refine w_ldc2 (n := 6) O dX7_mean_3 uc_X7_217 rfl ?_
  refine w_topl (lN 10) (by decide) ?_
  refine w_cS (n := 9) (ro := some (.int (bI (wIn (v) (nI 0) (nI 10))))) (R := fun mM' => mM = mM') (st := []) (st1 := [.int (bI (wIn (v) (nI 0) (nI 10)))]) (As := [.long ((v).toInt64), .long (lN 0), .long (lN 10)]) O dX7_mean_6 ul_X7_50 um_X7_in (f_X7_in (x := (v)) (y := (nI 0)) (z := (nI 10)) hW rfl (nI_l (by decide)).symm (nI_l (by decide)).symm ⟨rfl, rfl⟩) rfl rfl rfl (by decide) (Nat.le_of_ble_eq_true rfl) rfl (fun mhM_1 hM_1 => ?_)
  subst hM_1
  refine w_if_eqB (n := 12) (tgt := 32) O dX7_mean_9 (by decide) rfl (fun c_2 => ?_) (fun c_2 => ?_)
  · skip
    refine w_ldc2 (n := 35) O dX7_mean_32 uc_X7_245 rfl ?_
    refine w_lret O dX7_mean_35 ?_
    have e0 : a_lies T true v x = -1 := by unfold a_lies; rw [if_neg (by rw [show liesOk v x = false from by simp [liesOk, c_2]]; decide)]
    rw [e0] at hQ
    try dsimp only at hQ
    exact hQ (mM) ⟨_, _, _, _, _, _, _, _, _, _, _, _, _, _, _, _, _, _, _, _, h49, h50, h51, h52, h53, h54, h55, h56, h57, h58, h59, h60, htm, hpg, hIm, hSe, hLa, hLe, hCe⟩ sm.rf
  · skip
    have hr_j := c_2
    obtain ⟨j, ja, jb, rfl⟩ := wIn_t (by omega) c_2 (by omega)
    have cl_j : (nI j).toNatClampNeg = j := nI_clamp (by omega)
    refine w_iload_n (n := 13) O dX7_mean_12 rfl rfl rfl ?_
    refine w_i2l (n := 14) O dX7_mean_13 rfl ?_
    refine w_lconst (n := 15) O dX7_mean_14 (v := lN 0) (by decide) rfl ?_
    refine w_lconst (n := 16) O dX7_mean_15 (v := lN 1) (by decide) rfl ?_
    refine w_cS (n := 19) (ro := some (.int (bI (wIn (x) (nI 0) (nI 1))))) (R := fun mM' => mM = mM') (st := []) (st1 := [.int (bI (wIn (x) (nI 0) (nI 1)))]) (As := [.long ((x).toInt64), .long (lN 0), .long (lN 1)]) O dX7_mean_16 ul_X7_50 um_X7_in (f_X7_in (x := (x)) (y := (nI 0)) (z := (nI 1)) hW rfl (nI_l (by decide)).symm (nI_l (by decide)).symm ⟨rfl, rfl⟩) rfl rfl rfl (by decide) (Nat.le_of_ble_eq_true rfl) rfl (fun mhM_3 hM_3 => ?_)
    subst hM_3
    refine w_if_eqB (n := 22) (tgt := 32) O dX7_mean_19 (by decide) rfl (fun c_4 => ?_) (fun c_4 => ?_)
    · skip
      refine w_ldc2 (n := 35) O dX7_mean_32 uc_X7_245 rfl ?_
      refine w_lret O dX7_mean_35 ?_
      have e0 : a_lies T true (nI j) x = -1 := by unfold a_lies; rw [if_neg (by rw [show liesOk (nI j) x = false from by simp [liesOk, c_4]]; decide)]
      rw [e0] at hQ
      try dsimp only at hQ
      exact hQ (mM) ⟨_, _, _, _, _, _, _, _, _, _, _, _, _, _, _, _, _, _, _, _, h49, h50, h51, h52, h53, h54, h55, h56, h57, h58, h59, h60, htm, hpg, hIm, hSe, hLa, hLe, hCe⟩ sm.rf
    · skip
      have hr_q := c_4
      obtain ⟨q, qa, qb, rfl⟩ := wIn_t (by omega) c_4 (by omega)
      have cl_q : (nI q).toNatClampNeg = q := nI_clamp (by omega)
      refine w_aload_n (n := 23) O dX7_mean_22 rfl rfl rfl ?_
      refine w_iload_n (n := 24) O dX7_mean_23 rfl rfl rfl ?_
      refine w_iconst (n := 25) O dX7_mean_24 (v := (nI 1)) (by decide) rfl ?_
      refine w_iload_n (n := 26) O dX7_mean_25 rfl rfl rfl ?_
      refine w_cV (n := 29) (ro := some (.long (lN (fracN (lieS T j true (2 ^ T.2.2.2.1)) (10 ^ T.2.2.2.1) q)))) (R := fun mM' => ∀ k, mM' k = mM k) (st := []) (st1 := [.long (lN (fracN (lieS T j true (2 ^ T.2.2.2.1)) (10 ^ T.2.2.2.1) q))]) (As := [.int (nI (j)), .int (nI 1), .int (nI (q))]) (b := 49) O dX7_mean_26 ul_X7_241 um_X7_byLies (f_X7_byLies (s := s) (T := T) (tm := tm) (isW := true) hW ⟨h50, hpg, _, _, _, _, _, _, _, _, _, _, _, _, _, _, _, _, h49⟩ ok htm (by omega) (by omega) (fun M' h1 => ⟨rfl, h1⟩)) rfl (by omega) h49 rfl rfl rfl rfl (by decide) (Nat.le_of_ble_eq_true rfl) rfl (fun mhM_5 hM_5 => ?_)
      have hs9 : sm mM mhM_5 49 60 := fun k _ => hM_5 k
      refine w_goto (tgt := 35) O dX7_mean_29 (by decide) ?_
      refine w_lret O dX7_mean_35 ?_
      have e0 : a_lies T true (nI j) (nI q) = lN (fracN (lieS T j true (2 ^ T.2.2.2.1)) (10 ^ T.2.2.2.1) q) := by unfold a_lies; rw [if_pos (by unfold liesOk; rw [hr_j, hr_q]; rfl), cl_j, cl_q]
      rw [e0] at hQ
      try dsimp only at hQ
      exact hQ (mhM_5) ⟨_, _, _, _, _, _, _, _, _, _, _, _, _, _, _, _, _, _, _, _, ((hM_5 49).trans h49), ((hM_5 50).trans h50), ((hM_5 51).trans h51), ((hM_5 52).trans h52), ((hM_5 53).trans h53), ((hM_5 54).trans h54), ((hM_5 55).trans h55), ((hM_5 56).trans h56), ((hM_5 57).trans h57), ((hM_5 58).trans h58), ((hM_5 59).trans h59), ((hM_5 60).trans h60), htm, hpg, hIm, hSe, hLa, hLe, hCe⟩ (sm.rf.tr (hs9.mono (by omega) (by omega)))
set_option maxRecDepth 100000 in
set_option maxHeartbeats 4000000 in
theorem f_X7_luck {G : gb_G} (hW : gW G) {Q : Option Value → gb_M → Prop} {mM : gb_M} {T : Tw} {im : Nat → Tw} {kp : Nat → Bool} {bs : Nat → Nat} {ln fa : Nat} {st sf : Nat → Nat} {sn : Nat} {sh : Sh} {sc : Nat → Nat → Int32} {tn : Nat} (hok : okS T im kp bs ln fa st sf sn sh tn) (hM : isMW G mM T im kp bs ln fa st sf sn sh sc tn) {v x : Int32}  (hQ : ∀ M', isMW G M' T im kp bs ln fa st sf sn sh sc tn → sm mM M' 49 60 → Q (some (.long (a_lies T false v x))) M') : Fn G 9 yX7_luck cX7_luck 3 (some .long) [.ref (gb_ad G 49), .int (v), .int (x)] mM Q := by
  obtain ⟨s, se, le, rp, te, la, ce, tm, x3, x4, x5, x6, x7, x11, x12, x13, x14, x15, x16, x26, h49, h50, h51, h52, h53, h54, h55, h56, h57, h58, h59, h60, htm, hpg, hIm, hSe, hLa, hLe, hCe⟩ := hM
  have ok := hok.1
  have hn4 := ok.1
  have hst9 := hok.2.1
  have hln := hok.2.2.2.1
  have hsn6 := hok.2.2.2.2.2.2.1
  have hN := hW.2.2.1
  refine Fn.of hW.1 [(0, .ref (gb_ad G 49)), (1, .int (v)), (2, .int (x))] (by decide) (Nat.le_of_ble_eq_true rfl) rfl ?_
  intro X O
  refine w_iload_n (n := 1) O dX7_luck_0 rfl rfl rfl ?_
  refine w_i2l (n := 2) O dX7_luck_1 rfl ?_
  refine w_lconst (n := 3) O dX7_luck_2 (v := lN 0) (by decide) rfl ?_
  refine w_ldc2 (n := 6) O dX7_luck_3 uc_X7_217 rfl ?_
  refine w_topl (lN 10) (by decide) ?_
  refine w_cS (n := 9) (ro := some (.int (bI (wIn (v) (nI 0) (nI 10))))) (R := fun mM' => mM = mM') (st := []) (st1 := [.int (bI (wIn (v) (nI 0) (nI 10)))]) (As := [.long ((v).toInt64), .long (lN 0), .long (lN 10)]) O dX7_luck_6 ul_X7_50 um_X7_in (f_X7_in (x := (v)) (y := (nI 0)) (z := (nI 10)) hW rfl (nI_l (by decide)).symm (nI_l (by decide)).symm ⟨rfl, rfl⟩) rfl rfl rfl (by decide) (Nat.le_of_ble_eq_true rfl) rfl (fun mhM_1 hM_1 => ?_)
  subst hM_1
  refine w_if_eqB (n := 12) (tgt := 32) O dX7_luck_9 (by decide) rfl (fun c_2 => ?_) (fun c_2 => ?_)
  · skip
    refine w_ldc2 (n := 35) O dX7_luck_32 uc_X7_245 rfl ?_
    refine w_lret O dX7_luck_35 ?_
    have e0 : a_lies T false v x = -1 := by unfold a_lies; rw [if_neg (by rw [show liesOk v x = false from by simp [liesOk, c_2]]; decide)]
    rw [e0] at hQ
    try dsimp only at hQ
    exact hQ (mM) ⟨_, _, _, _, _, _, _, _, _, _, _, _, _, _, _, _, _, _, _, _, h49, h50, h51, h52, h53, h54, h55, h56, h57, h58, h59, h60, htm, hpg, hIm, hSe, hLa, hLe, hCe⟩ sm.rf
  · skip
    have hr_j := c_2
    obtain ⟨j, ja, jb, rfl⟩ := wIn_t (by omega) c_2 (by omega)
    have cl_j : (nI j).toNatClampNeg = j := nI_clamp (by omega)
    refine w_iload_n (n := 13) O dX7_luck_12 rfl rfl rfl ?_
    refine w_i2l (n := 14) O dX7_luck_13 rfl ?_
    refine w_lconst (n := 15) O dX7_luck_14 (v := lN 0) (by decide) rfl ?_
    refine w_lconst (n := 16) O dX7_luck_15 (v := lN 1) (by decide) rfl ?_
    refine w_cS (n := 19) (ro := some (.int (bI (wIn (x) (nI 0) (nI 1))))) (R := fun mM' => mM = mM') (st := []) (st1 := [.int (bI (wIn (x) (nI 0) (nI 1)))]) (As := [.long ((x).toInt64), .long (lN 0), .long (lN 1)]) O dX7_luck_16 ul_X7_50 um_X7_in (f_X7_in (x := (x)) (y := (nI 0)) (z := (nI 1)) hW rfl (nI_l (by decide)).symm (nI_l (by decide)).symm ⟨rfl, rfl⟩) rfl rfl rfl (by decide) (Nat.le_of_ble_eq_true rfl) rfl (fun mhM_3 hM_3 => ?_)
    subst hM_3
    refine w_if_eqB (n := 22) (tgt := 32) O dX7_luck_19 (by decide) rfl (fun c_4 => ?_) (fun c_4 => ?_)
    · skip
      refine w_ldc2 (n := 35) O dX7_luck_32 uc_X7_245 rfl ?_
      refine w_lret O dX7_luck_35 ?_
      have e0 : a_lies T false (nI j) x = -1 := by unfold a_lies; rw [if_neg (by rw [show liesOk (nI j) x = false from by simp [liesOk, c_4]]; decide)]
      rw [e0] at hQ
      try dsimp only at hQ
      exact hQ (mM) ⟨_, _, _, _, _, _, _, _, _, _, _, _, _, _, _, _, _, _, _, _, h49, h50, h51, h52, h53, h54, h55, h56, h57, h58, h59, h60, htm, hpg, hIm, hSe, hLa, hLe, hCe⟩ sm.rf
    · skip
      have hr_q := c_4
      obtain ⟨q, qa, qb, rfl⟩ := wIn_t (by omega) c_4 (by omega)
      have cl_q : (nI q).toNatClampNeg = q := nI_clamp (by omega)
      refine w_aload_n (n := 23) O dX7_luck_22 rfl rfl rfl ?_
      refine w_iload_n (n := 24) O dX7_luck_23 rfl rfl rfl ?_
      refine w_iconst (n := 25) O dX7_luck_24 (v := (nI 0)) (by decide) rfl ?_
      refine w_iload_n (n := 26) O dX7_luck_25 rfl rfl rfl ?_
      refine w_cV (n := 29) (ro := some (.long (lN (fracN (lieS T j false (2 ^ T.2.2.2.1)) (10 ^ T.2.2.2.1) q)))) (R := fun mM' => ∀ k, mM' k = mM k) (st := []) (st1 := [.long (lN (fracN (lieS T j false (2 ^ T.2.2.2.1)) (10 ^ T.2.2.2.1) q))]) (As := [.int (nI (j)), .int (nI 0), .int (nI (q))]) (b := 49) O dX7_luck_26 ul_X7_241 um_X7_byLies (f_X7_byLies (s := s) (T := T) (tm := tm) (isW := false) hW ⟨h50, hpg, _, _, _, _, _, _, _, _, _, _, _, _, _, _, _, _, h49⟩ ok htm (by omega) (by omega) (fun M' h1 => ⟨rfl, h1⟩)) rfl (by omega) h49 rfl rfl rfl rfl (by decide) (Nat.le_of_ble_eq_true rfl) rfl (fun mhM_5 hM_5 => ?_)
      have hs9 : sm mM mhM_5 49 60 := fun k _ => hM_5 k
      refine w_goto (tgt := 35) O dX7_luck_29 (by decide) ?_
      refine w_lret O dX7_luck_35 ?_
      have e0 : a_lies T false (nI j) (nI q) = lN (fracN (lieS T j false (2 ^ T.2.2.2.1)) (10 ^ T.2.2.2.1) q) := by unfold a_lies; rw [if_pos (by unfold liesOk; rw [hr_j, hr_q]; rfl), cl_j, cl_q]
      rw [e0] at hQ
      try dsimp only at hQ
      exact hQ (mhM_5) ⟨_, _, _, _, _, _, _, _, _, _, _, _, _, _, _, _, _, _, _, _, ((hM_5 49).trans h49), ((hM_5 50).trans h50), ((hM_5 51).trans h51), ((hM_5 52).trans h52), ((hM_5 53).trans h53), ((hM_5 54).trans h54), ((hM_5 55).trans h55), ((hM_5 56).trans h56), ((hM_5 57).trans h57), ((hM_5 58).trans h58), ((hM_5 59).trans h59), ((hM_5 60).trans h60), htm, hpg, hIm, hSe, hLa, hLe, hCe⟩ (sm.rf.tr (hs9.mono (by omega) (by omega)))
def isVs (G : gb_G) (M : gb_M) (s : Nat → Nat) (T : Tw) (tm sn : Nat) (se : Nat → Nat) : Prop :=
  M 50 = IA G 150 (pgI s) ∧ pg0 s T ∧ M 55 = IN G 12 se ∧ ∃ x3 x4 x5 x6 x7 x9 x10 x11 x12 x13 x14 x15 x16 x26 x31 : Int32,
  M 49 = (.inr (7, [.ref (gb_ad G 50), .int (nI (T.2.2.2.1)), .ref (gb_ad G 51), .int (x3), .int (x4), .int (x5), .int (x6), .int (x7), .ref (gb_ad G 52), .int (x9), .int (x10), .int (x11), .int (x12), .int (x13), .int (x14), .int (x15), .int (x16), .ref (gb_ad G 53), .ref (gb_ad G 54), .int (nI 0), .int (nI 0), .int (oI none), .int (nI (tm)), .ref (gb_ad G 55), .int (nI (sn)), .ref (gb_ad G 56), .int (x26), .ref (gb_ad G 57), .ref (gb_ad G 58), .ref (gb_ad G 59), .ref (gb_ad G 60), .int (x31)]))
theorem setG_up {T : Tw} {dg : Nat → Nat} {g v : Nat} (hg : g < T.2.2.2.1) : (upN (setG T dg).1 (g * 6 + 1) v, (setG T dg).2) = setG T (upN dg g v) := by
  unfold setG
  congr 1
  funext k
  simp only [upN]
  by_cases e : k = g * 6 + 1
  · rw [if_pos e, if_pos ⟨by omega, by omega⟩, if_pos (by omega)]
  · rw [if_neg e]
    by_cases q : k % 6 = 1 ∧ k / 6 < T.2.2.2.1
    · rw [if_pos q, if_pos q, if_neg (by omega)]
    · rw [if_neg q, if_neg q]
theorem setG_cong {T : Tw} {d1 d2 : Nat → Nat} (h : ∀ g, g < T.2.2.2.1 → d1 g = d2 g) : setG T d1 = setG T d2 := by
  unfold setG
  congr 1
  funext k
  by_cases q : k % 6 = 1 ∧ k / 6 < T.2.2.2.1
  · rw [if_pos q, if_pos q]; exact h _ q.2
  · rw [if_neg q, if_neg q]
theorem setG_self {T : Tw} (h4 : T.2.2.2.1 ≤ 4) : setG T (fun g => if g < 4 then T.1 (g * 6 + 1) else 0) = T := by
  unfold setG
  have e : (fun k => if k % 6 = 1 ∧ k / 6 < T.2.2.2.1 then (fun g => if g < 4 then T.1 (g * 6 + 1) else 0) (k / 6) else T.1 k) = T.1 := by
    funext k
    by_cases q : k % 6 = 1 ∧ k / 6 < T.2.2.2.1
    · rw [if_pos q]
      show (if k / 6 < 4 then T.1 (k / 6 * 6 + 1) else 0) = T.1 k
      rw [if_pos (by omega), show k / 6 * 6 + 1 = k by omega]
    · rw [if_neg q]
  rw [e]
theorem sAll_stop {p : Nat → Bool} {i : Nat} (h : sAll p i = false) : ∀ {n : Nat}, i ≤ n → sAll p n = false
  | 0, q => by rw [show i = 0 by omega] at h; exact h
  | n + 1, q => by
    rcases Nat.eq_or_lt_of_le q with e | e
    · rw [← e]; exact h
    · simp only [sAll, sAll_stop h (show i ≤ n by omega), Bool.false_and]
theorem div10 {c n g : Nat} (hg : g < n) : c / 10 ^ (n - (g + 1)) / 10 = c / 10 ^ (n - g) := by
  rw [Nat.div_div_eq_div_mul, ← Nat.pow_succ, show (n - (g + 1)).succ = n - g by omega]
set_option maxRecDepth 100000 in
set_option maxHeartbeats 4000000 in
theorem f_X7_laysGuilts {G : gb_G} (hW : gW G) {Q : Option Value → gb_M → Prop} {mM : gb_M} {s : Nat → Nat} {T : Tw} {tm sn : Nat} {se st sf dg : Nat → Nat} (hVs : isVs G mM s (setG T dg) tm sn se) (ok : okT T) (htm : tm ≤ 40) (hsn6 : sn ≤ 6) (hst : ∀ k, k < sn → st k ≤ 8 ∧ sf k ≤ 9) (hSe : ∀ k, k < sn → se (2 * k) = st k ∧ se (2 * k + 1) = sf k) {c : Nat} (hc4 : c ≤ 10000)  (hQ : ∀ M' s', M' 50 = IA G 150 (pgI s') → pg0 s' (setG T (dig T.2.2.2.1 c)) → (∀ k, 30 ≤ k → s' k = s k) → sm mM M' 50 50 → Q (some (.int (bI (fitB T st sf sn c)))) M') : Fn G 7 yX7_laysGuilts cX7_laysGuilts 5 (some .boolean) [.ref (gb_ad G 49), .int (nI (c))] mM Q := by
  obtain ⟨h50, hpg, h55, x3, x4, x5, x6, x7, x9, x10, x11, x12, x13, x14, x15, x16, x26, x31, h49⟩ := hVs
  have hn4 := ok.1
  have hN := hW.2.2.1
  refine Fn.of hW.1 [(0, .ref (gb_ad G 49)), (1, .int (nI (c)))] (by decide) (Nat.le_of_ble_eq_true rfl) rfl ?_
  intro X O
  refine w_iload_n (n := 1) O dX7_laysGuilts_0 rfl rfl rfl ?_
  refine w_istore_n (n := 2) (lv' := [(2, .int (nI (c))), (0, .ref (gb_ad G 49)), (1, .int (nI (c)))]) O dX7_laysGuilts_1 rfl (by decide) rfl rfl ?_
  refine w_aload_n (n := 3) O dX7_laysGuilts_2 rfl rfl rfl ?_
  refine w_getf (n := 6) O 1 dX7_laysGuilts_3 (by omega) h49 rfl (by decide) uX7 uf_X7_136 rfl rfl ?_
  refine w_iconst (n := 7) O dX7_laysGuilts_6 (v := (nI 1)) (by decide) rfl ?_
  refine w_isub (n := 8) O dX7_laysGuilts_7 rfl ?_
  refine w_istore_n (n := 9) (lv' := [(3, .int (((nI (T.2.2.2.1)) - (nI (1))))), (2, .int (nI (c))), (0, .ref (gb_ad G 49)), (1, .int (nI (c)))]) O dX7_laysGuilts_8 rfl (by decide) rfl rfl ?_
  have G1 : ∀ (k : Nat) (gk lf : Nat) (dg1 s1 : Nat → Nat) (m1 : gb_M), gk = k → gk ≤ T.2.2.2.1 → lf = c / 10 ^ (T.2.2.2.1 - gk) → lf ≤ c → (∀ g, gk ≤ g → g < T.2.2.2.1 → dg1 g = dig T.2.2.2.1 c g) → pg0 s1 (setG T dg1) → m1 50 = IA G 150 (pgI s1) → (∀ k2, 30 ≤ k2 → s1 k2 = s k2) → sm mM m1 50 50 → Wm G X 5 Q 9 [(0, .ref (gb_ad G 49)), (1, .int (nI (c))), (2, .int (nI (lf))), (3, .int (dI gk))] [] m1 := by
    intro k
    induction k using Nat.strongRecOn with
    | ind k ih_G1 =>
      intro gk lf dg1 s1 m1 hk hgk hlf hlf2 hdg hpg1 h501 hkp hs1
      refine w_iload_n (n := 10) O dX7_laysGuilts_9 rfl rfl rfl ?_
      refine w_if_lt (n := 13) (tgt := 36) O dX7_laysGuilts_10 (by decide) rfl (fun c_1 => ?_) (fun c_1 => ?_)
      · skip
        have hk0 := dI_lt (by omega) c_1
        subst hk0
        have eG : setG T dg1 = (setG T (dig T.2.2.2.1 c)) := setG_cong (fun g hg => hdg g (Nat.zero_le _) hg)
        rw [eG] at hpg1
        have okU := okT_setG ok (dig_le T.2.2.2.1 c)
        refine w_iconst (n := 37) O dX7_laysGuilts_36 (v := (nI 1)) (by decide) rfl ?_
        refine w_istore_n (n := 38) (lv' := [(3, .int (nI 1)), (0, .ref (gb_ad G 49)), (1, .int (nI (c))), (2, .int (nI (lf)))]) O dX7_laysGuilts_37 rfl (by decide) rfl rfl ?_
        refine w_iconst (n := 39) O dX7_laysGuilts_38 (v := (nI 0)) (by decide) rfl ?_
        refine w_istore (n := 41) (lv' := [(4, .int (nI 0)), (3, .int (nI 1)), (0, .ref (gb_ad G 49)), (1, .int (nI (c))), (2, .int (nI (lf)))]) O dX7_laysGuilts_39 (by decide) rfl rfl ?_
        have G2 : ∀ (k : Nat) (i : Nat) (fi : Bool), sn - i = k → i ≤ sn → fi = sAll (fun k => decide (tTap (setG T (dig T.2.2.2.1 c)) (st k) = sf k)) i → Wm G X 5 Q 41 [(0, .ref (gb_ad G 49)), (1, .int (nI (c))), (3, .int (bI (fi))), (4, .int (nI (i)))] [] m1 := by
          intro k
          induction k using Nat.strongRecOn with
          | ind k ih_G2 =>
            intro i fi hk hi hfi
            refine w_iload (n := 43) O dX7_laysGuilts_41 rfl rfl ?_
            refine w_aload_n (n := 44) O dX7_laysGuilts_43 rfl rfl rfl ?_
            refine w_getf (n := 47) O 24 dX7_laysGuilts_44 (by omega) ((hs1 (49) (by omega)).trans h49) rfl (by decide) uX7 uf_X7_139 rfl rfl ?_
            refine w_icmp_geN (n := 50) (tgt := 93) O dX7_laysGuilts_47 (by omega) (by omega) (by decide) rfl (fun c_2 => ?_) (fun c_2 => ?_)
            · skip
              refine w_iload_n (n := 94) O dX7_laysGuilts_93 rfl rfl rfl ?_
              refine w_zret O dX7_laysGuilts_94 (bI_nar _) ?_
              have e : fitB T st sf sn c = fi := by unfold fitB; rw [hfi, show i = sn by omega]
              rw [e] at hQ
              exact hQ _ _ h501 hpg1 hkp (sm.rf.tr (hs1.mono (by omega) (by omega)))
            · skip
              refine w_iload_n (n := 51) O dX7_laysGuilts_50 rfl rfl rfl ?_
              refine w_if_eqB (n := 54) (tgt := 93) O dX7_laysGuilts_51 (by decide) rfl (fun c_3 => ?_) (fun c_3 => ?_)
              · skip
                refine w_iload_n (n := 94) O dX7_laysGuilts_93 rfl rfl rfl ?_
                refine w_zret O dX7_laysGuilts_94 (bI_nar _) ?_
                have e : fitB T st sf sn c = fi := by unfold fitB; rw [c_3]; exact sAll_stop (by rw [← hfi]; exact c_3) hi
                rw [e] at hQ
                exact hQ _ _ h501 hpg1 hkp (sm.rf.tr (hs1.mono (by omega) (by omega)))
              · skip
                have hsi := hSe i (by omega)
                have hss := hst i (by omega)
                have htp : tTap (setG T (dig T.2.2.2.1 c)) (st i) < 10 := Nat.mod_lt _ (by decide)
                refine w_aload_n (n := 55) O dX7_laysGuilts_54 rfl rfl rfl ?_
                refine w_aload_n (n := 56) O dX7_laysGuilts_55 rfl rfl rfl ?_
                refine w_getf (n := 59) O 23 dX7_laysGuilts_56 (by omega) ((hs1 (49) (by omega)).trans h49) rfl (by decide) uX7 uf_X7_29 rfl rfl ?_
                refine w_iconst (n := 60) O dX7_laysGuilts_59 (v := (nI 2)) (by decide) rfl ?_
                refine w_iload (n := 62) O dX7_laysGuilts_60 rfl rfl ?_
                refine w_imulN (n := 63) O dX7_laysGuilts_62 rfl ?_
                refine w_ialdN (n := 64) O dX7_laysGuilts_63 hW.2.1 (by omega) ((hs1 (55) (by omega)).trans h55) (by omega) (by decide) rfl ?_
                refine w_top (nI (st i)) (by rw [hsi.1]) ?_
                refine w_cV (n := 67) (ro := some (.int (nI (tTap ((setG T (dig T.2.2.2.1 c))) (st i))))) (R := fun mM' => m1 = mM') (st := []) (st1 := [.int (nI (tTap ((setG T (dig T.2.2.2.1 c))) (st i)))]) (As := [.int (nI (st i))]) (b := 49) O dX7_laysGuilts_64 ul_X7_199 um_X7_taps (f_X7_taps (s := s1) (T := (setG T (dig T.2.2.2.1 c))) (tm := tm) hW ⟨h501, hpg1, _, _, _, _, _, _, _, _, _, _, _, _, _, _, _, _, ((hs1 (49) (by omega)).trans h49)⟩ okU htm (by omega) ⟨rfl, rfl⟩) rfl (by omega) ((hs1 (49) (by omega)).trans h49) rfl rfl rfl rfl (by decide) (Nat.le_of_ble_eq_true rfl) rfl (fun mhM_4 hM_4 => ?_)
                subst hM_4
                refine w_aload_n (n := 68) O dX7_laysGuilts_67 rfl rfl rfl ?_
                refine w_getf (n := 71) O 23 dX7_laysGuilts_68 (by omega) ((hs1 (49) (by omega)).trans h49) rfl (by decide) uX7 uf_X7_29 rfl rfl ?_
                refine w_iconst (n := 72) O dX7_laysGuilts_71 (v := (nI 2)) (by decide) rfl ?_
                refine w_iload (n := 74) O dX7_laysGuilts_72 rfl rfl ?_
                refine w_imulN (n := 75) O dX7_laysGuilts_74 rfl ?_
                refine w_iconst (n := 76) O dX7_laysGuilts_75 (v := (nI 1)) (by decide) rfl ?_
                refine w_iaddN (n := 77) O dX7_laysGuilts_76 rfl ?_
                refine w_ialdN (n := 78) O dX7_laysGuilts_77 hW.2.1 (by omega) ((hs1 (55) (by omega)).trans h55) (by omega) (by decide) rfl ?_
                refine w_top (nI (sf i)) (by rw [hsi.2]) ?_
                refine w_icmp_neN (n := 81) (tgt := 85) O dX7_laysGuilts_78 (by omega) (by omega) (by decide) rfl (fun c_5 => ?_) (fun c_5 => ?_)
                · skip
                  refine w_iconst (n := 86) O dX7_laysGuilts_85 (v := (nI 0)) (by decide) rfl ?_
                  refine w_istore_n (n := 87) (lv' := [(3, .int (nI 0)), (0, .ref (gb_ad G 49)), (1, .int (nI (c))), (4, .int (nI (i)))]) O dX7_laysGuilts_86 rfl (by decide) rfl rfl ?_
                  refine w_iincN (n := 90) (lv' := [(4, .int (nI (i + 1))), (3, .int (nI 0)), (0, .ref (gb_ad G 49)), (1, .int (nI (c)))]) O dX7_laysGuilts_87 rfl (by decide) rfl rfl ?_
                  refine w_goto (tgt := 41) O dX7_laysGuilts_90 (by decide) ?_
                  refine w_lv (lv2 := [(0, .ref (gb_ad G 49)), (1, .int (nI (c))), (3, .int (nI 0)), (4, .int (nI (i + 1)))]) [2, 3, 1, 0] rfl ?_
                  exact ih_G2 _ (by omega) (i + 1) false rfl (by omega) (by rw [sAll, ← hfi, c_3]; rw [decide_eq_false (show ¬ tTap (setG T (dig T.2.2.2.1 c)) (st i) = sf i from c_5)]; rfl)
                · skip
                  refine w_iconst (n := 82) O dX7_laysGuilts_81 (v := (nI 1)) (by decide) rfl ?_
                  refine w_goto (tgt := 86) O dX7_laysGuilts_82 (by decide) ?_
                  refine w_istore_n (n := 87) (lv' := [(3, .int (nI 1)), (0, .ref (gb_ad G 49)), (1, .int (nI (c))), (4, .int (nI (i)))]) O dX7_laysGuilts_86 rfl (by decide) rfl rfl ?_
                  refine w_iincN (n := 90) (lv' := [(4, .int (nI (i + 1))), (3, .int (nI 1)), (0, .ref (gb_ad G 49)), (1, .int (nI (c)))]) O dX7_laysGuilts_87 rfl (by decide) rfl rfl ?_
                  refine w_goto (tgt := 41) O dX7_laysGuilts_90 (by decide) ?_
                  refine w_lv (lv2 := [(0, .ref (gb_ad G 49)), (1, .int (nI (c))), (3, .int (nI 1)), (4, .int (nI (i + 1)))]) [2, 3, 1, 0] rfl ?_
                  exact ih_G2 _ (by omega) (i + 1) true rfl (by omega) (by rw [sAll, ← hfi, c_3]; rw [decide_eq_true (show tTap (setG T (dig T.2.2.2.1 c)) (st i) = sf i from c_5)]; rfl)
        refine w_lv (lv2 := [(0, .ref (gb_ad G 49)), (1, .int (nI (c))), (3, .int (nI 1)), (4, .int (nI 0))]) [2, 3, 1, 0] rfl ?_
        exact G2 _ 0 true rfl (Nat.zero_le _) rfl
      · skip
        obtain ⟨g, rfl⟩ := dI_ge c_1
        rw [dI_s]
        refine w_aload_n (n := 14) O dX7_laysGuilts_13 rfl rfl rfl ?_
        refine w_getf (n := 17) O 0 dX7_laysGuilts_14 (by omega) ((hs1 (49) (by omega)).trans h49) rfl (by decide) uX7 uf_X7_7 rfl rfl ?_
        refine w_iconst (n := 18) O dX7_laysGuilts_17 (v := (nI 4)) (by decide) rfl ?_
        refine w_iload_n (n := 19) O dX7_laysGuilts_18 rfl rfl rfl ?_
        refine w_iaddN (n := 20) O dX7_laysGuilts_19 rfl ?_
        refine w_iload_n (n := 21) O dX7_laysGuilts_20 rfl rfl rfl ?_
        refine w_bipush (n := 23) O dX7_laysGuilts_21 (v := (nI 10)) (by decide) rfl ?_
        refine w_iremN (n := 24) O dX7_laysGuilts_23 (by omega) (by omega) (by omega) rfl ?_
        refine w_iastP (n := 25) (v := (lf % 10)) O dX7_laysGuilts_24 hW.2.1 (by omega) h501 (by omega) (by decide) (pgI_nv (by omega)) rfl ?_
        refine w_iload_n (n := 26) O dX7_laysGuilts_25 rfl rfl rfl ?_
        refine w_bipush (n := 28) O dX7_laysGuilts_26 (v := (nI 10)) (by decide) rfl ?_
        refine w_idivN (n := 29) O dX7_laysGuilts_28 (by omega) (by omega) (by omega) rfl ?_
        refine w_istore_n (n := 30) (lv' := [(2, .int (nI ((lf / 10)))), (0, .ref (gb_ad G 49)), (1, .int (nI (c))), (3, .int (nI (g)))]) O dX7_laysGuilts_29 rfl (by decide) rfl rfl ?_
        refine w_iinc (n := 33) (lv' := [(3, .int (nI (g) + (-1))), (2, .int (nI ((lf / 10)))), (0, .ref (gb_ad G 49)), (1, .int (nI (c)))]) O dX7_laysGuilts_30 rfl (v := -1) (by decide) (by decide) rfl rfl ?_
        rw [dI_dec]
        refine w_goto (tgt := 9) O dX7_laysGuilts_33 (by decide) ?_
        refine w_lv (lv2 := [(0, .ref (gb_ad G 49)), (1, .int (nI (c))), (2, .int (nI ((lf / 10)))), (3, .int (dI g))]) [2, 3, 1, 0] rfl ?_
        exact ih_G1 _ (by omega) g (lf / 10) (upN dg1 g (lf % 10)) _ _ rfl (by omega) (by rw [hlf]; exact div10 (by omega)) (by omega) (fun g2 h1 h2 => by by_cases e : g2 = g; (rw [e, upN_self, hlf]; unfold dig; rw [show T.2.2.2.1 - 1 - g = T.2.2.2.1 - (g + 1) by omega]); (rw [upN_ne _ _ e]; exact hdg g2 (by omega) h2)) (by rw [← setG_up (by omega)]; exact (pg_gu hpg1 (by omega))) (va_up_self _ _ _) (fun k2 hk2 => (upN_ne _ _ (by omega)).trans (hkp k2 hk2)) ((sm.rf.tr (hs1.mono (by omega) (by omega))).up (by omega) (by omega))
  refine w_lv (lv2 := [(0, .ref (gb_ad G 49)), (1, .int (nI (c))), (2, .int (nI (c))), (3, .int (((nI (T.2.2.2.1)) - (nI (1)))))]) [2, 3, 1, 0] rfl ?_
  exact G1 _ T.2.2.2.1 c dg s mM rfl (Nat.le_refl _) (by rw [Nat.sub_self, Nat.pow_zero, Nat.div_one]) (Nat.le_refl _) (fun g h1 h2 => absurd h1 (by omega)) hpg h50 (fun _ _ => rfl) sm.rf
