set_option maxRecDepth 100000 in
set_option maxHeartbeats 4000000 in
theorem f_X1_gather {G : gb_G} (hW : gW G) {Q : Option Value → gb_M → Prop} {mM : gb_M} {b : Nat} {T : Tw} (hT : isT G mM b T) (hb : b + 3 < gb_N G) (ok : okT T) (hbm : b + 3 < 9 ∨ 11 < b) {pa am : Nat → Nat} {w : Nat} (hM : isM G mM pa am w)  (hQ : ∀ M', isM G M' (fun k => if k < T.2.2.2.1 then tGives T k else pa k) am w → sm mM M' 9 11 → Q none M') : Fn G 4 yX1_gather cX1_gather 3 none [.ref (gb_ad G 9), .ref (gb_ad G (b))] mM Q := by
  have hN := hW.2.2.1
  refine Fn.of hW.1 [(0, .ref (gb_ad G 9)), (1, .ref (gb_ad G (b)))] (by decide) (Nat.le_of_ble_eq_true rfl) rfl ?_
  intro X O
  have hn4 := ok.1
  refine w_iconst (n := 1) O dX1_gather_0 (v := (nI 0)) (by decide) rfl ?_
  refine w_istore_n (n := 2) (lv' := [(2, .int (nI 0)), (0, .ref (gb_ad G 9)), (1, .ref (gb_ad G (b)))]) O dX1_gather_1 rfl (by decide) rfl rfl ?_
  have LG : ∀ (k : Nat) (i : Nat) (m1 : gb_M), T.2.2.2.1 - i = k → i ≤ T.2.2.2.1 → isM G m1 (fun k => if k < i then tGives T k else pa k) am w → sm mM m1 9 11 → Wm G X 3 Q 2 [(0, .ref (gb_ad G 9)), (1, .ref (gb_ad G (b))), (2, .int (nI (i)))] [] m1 := by
    intro k
    induction k using Nat.strongRecOn with
    | ind k ih_LG =>
      intro i m1 hk hi hM1 hs1
      refine w_iload_n (n := 3) O dX1_gather_2 rfl rfl rfl ?_
      refine w_aload_n (n := 4) O dX1_gather_3 rfl rfl rfl ?_
      refine w_getf (n := 7) O 3 dX1_gather_4 (by omega) ((hs1 (b) (by omega)).trans hT.1) rfl (by decide) uX5 uf_X1_22 rfl rfl ?_
      refine w_icmp_geN (n := 10) (tgt := 27) O dX1_gather_7 (by omega) (by omega) (by decide) rfl (fun c_1 => ?_) (fun c_1 => ?_)
      · skip
        refine w_vret O dX1_gather_27 ?_
        have en : i = T.2.2.2.1 := by omega
        rw [en] at hM1
        exact hQ _ hM1 hs1
      · skip
        refine w_aload_n (n := 11) O dX1_gather_10 rfl rfl rfl ?_
        refine w_getf (n := 14) O 0 dX1_gather_11 (by omega) hM1.1 rfl (by decide) uX1 uf_X1_9 rfl rfl ?_
        refine w_iload_n (n := 15) O dX1_gather_14 rfl rfl rfl ?_
        refine w_aload_n (n := 16) O dX1_gather_15 rfl rfl rfl ?_
        refine w_iload_n (n := 17) O dX1_gather_16 rfl rfl rfl ?_
        refine w_cV (n := 20) (ro := some (.int (nI (tGives T (i))))) (R := fun mM' => m1 = mM') (st := [.int (nI (i)), .ref (gb_ad G 10)]) (st1 := [.int (nI (tGives T (i))), .int (nI (i)), .ref (gb_ad G 10)]) (As := [.int (nI (i))]) (b := b) O dX1_gather_17 ul_X1_27 um_X5_gives (f_X5_gives (T := T) hW ⟨((hs1 (b) (by omega)).trans hT.1), ((hs1 (b + 1) (by omega)).trans hT.2.1), ((hs1 (b + 2) (by omega)).trans hT.2.2.1), ((hs1 (b + 3) (by omega)).trans hT.2.2.2)⟩ (by omega) ok (by omega) ⟨rfl, rfl⟩) rfl (by omega) ((hs1 (b) (by omega)).trans hT.1) rfl rfl rfl rfl (by decide) (Nat.le_of_ble_eq_true rfl) rfl (fun mhM_2 hM_2 => ?_)
        subst hM_2
        refine w_iastN (n := 21) O dX1_gather_20 hW.2.1 (by omega) hM1.2.1 (by omega) (by decide) rfl ?_
        refine w_iincN (n := 24) (lv' := [(2, .int (nI (i + 1))), (0, .ref (gb_ad G 9)), (1, .ref (gb_ad G (b)))]) O dX1_gather_21 rfl (by decide) rfl rfl ?_
        refine w_goto (tgt := 2) O dX1_gather_24 (by decide) ?_
        refine w_lv (lv2 := [(0, .ref (gb_ad G 9)), (1, .ref (gb_ad G (b))), (2, .int (nI (i + 1)))]) [1, 2, 0] rfl ?_
        exact ih_LG _ (by omega) (i + 1) _ rfl (by omega) (by rw [← upN_fill]; exact ⟨((va_up_ne _ _ (by decide)).trans hM1.1), (va_up_self _ _ _), ((va_up_ne _ _ (by decide)).trans hM1.2.2)⟩) (hs1.up (by omega) (by omega))
  refine w_lv (lv2 := [(0, .ref (gb_ad G 9)), (1, .ref (gb_ad G (b))), (2, .int (nI 0))]) [1, 2, 0] rfl ?_
  exact LG _ 0 mM rfl (Nat.zero_le _) (by simpa using hM) sm.rf
set_option maxRecDepth 100000 in
set_option maxHeartbeats 4000000 in
theorem f_X1_pour {G : gb_G} (hW : gW G) {Q : Option Value → gb_M → Prop} {mM : gb_M} {b : Nat} {T : Tw} (hT : isT G mM b T) (hb : b + 3 < gb_N G) (ok : okT T) (hbm : b + 3 < 9 ∨ 11 < b) {pa am : Nat → Nat} {w : Nat} (hM : isM G mM pa am w) (hp : okP pa)  (hQ : ∀ M', isM G M' pa (mAm T pa) (mWt T pa) → sm mM M' 9 11 → Q none M') : Fn G 1 yX1_pour cX1_pour 3 none [.ref (gb_ad G 9), .ref (gb_ad G (b))] mM Q := by
  have hN := hW.2.2.1
  refine Fn.of hW.1 [(0, .ref (gb_ad G 9)), (1, .ref (gb_ad G (b)))] (by decide) (Nat.le_of_ble_eq_true rfl) rfl ?_
  intro X O
  have hn4 := ok.1
  refine w_aload_n (n := 1) O dX1_pour_0 rfl rfl rfl ?_
  refine w_getf (n := 4) O 1 dX1_pour_1 (by omega) hM.1 rfl (by decide) uX1 uf_X1_15 rfl rfl ?_
  refine w_iconst (n := 5) O dX1_pour_4 (v := (nI 0)) (by decide) rfl ?_
  refine w_cS (n := 8) (ro := none) (R := fun mM' => (va_up mM (11) (IN G 4 (fun _ => 0))) = mM') (st := []) (st1 := []) (As := [.ref (gb_ad G 11), .int (nI 0)]) O dX1_pour_5 ul_X1_31 um_J7_fill_53178 (f_J7_fill hW (by omega) hM.2.2 (by decide) ⟨rfl, rfl⟩) rfl rfl rfl (by decide) (Nat.le_of_ble_eq_true rfl) rfl (fun mhM_1 hM_1 => ?_)
  subst hM_1
  refine w_iconst (n := 9) O dX1_pour_8 (v := (nI 0)) (by decide) rfl ?_
  refine w_istore_n (n := 10) (lv' := [(2, .int (nI 0)), (0, .ref (gb_ad G 9)), (1, .ref (gb_ad G (b)))]) O dX1_pour_9 rfl (by decide) rfl rfl ?_
  have LP : ∀ (k : Nat) (i : Nat) (m1 : gb_M) (a1 : Nat → Nat), T.2.2.2.1 - i = k → i ≤ T.2.2.2.1 → (∀ m, a1 m = mAmtI T pa i m) → isM G m1 pa a1 w → sm mM m1 9 11 → Wm G X 3 Q 10 [(0, .ref (gb_ad G 9)), (1, .ref (gb_ad G (b))), (2, .int (nI (i)))] [] m1 := by
    intro k
    induction k using Nat.strongRecOn with
    | ind k ih_LP =>
      intro i m1 a1 hk hi hA hM1 hs1
      refine w_iload_n (n := 11) O dX1_pour_10 rfl rfl rfl ?_
      refine w_aload_n (n := 12) O dX1_pour_11 rfl rfl rfl ?_
      refine w_getf (n := 15) O 3 dX1_pour_12 (by omega) ((hs1 (b) (by omega)).trans hT.1) rfl (by decide) uX5 uf_X1_22 rfl rfl ?_
      refine w_icmp_geN (n := 18) (tgt := 44) O dX1_pour_15 (by omega) (by omega) (by decide) rfl (fun c_2 => ?_) (fun c_2 => ?_)
      · skip
        refine w_aload_n (n := 45) O dX1_pour_44 rfl rfl rfl ?_
        refine w_iconst (n := 46) O dX1_pour_45 (v := (nI 0)) (by decide) rfl ?_
        refine w_putf (n := 49) (fs' := [.ref (gb_ad G 10), .ref (gb_ad G 11), .int (nI 0)]) O 2 dX1_pour_46 (by omega) hM1.1 rfl (by decide) uX1 uf_X1_18 tyX1 tyX1_ok nmX1 rfl rfl rfl (Nat.le_of_ble_eq_true rfl) rfl rfl ?_
        refine w_iconst (n := 50) O dX1_pour_49 (v := (nI 0)) (by decide) rfl ?_
        refine w_istore_n (n := 51) (lv' := [(2, .int (nI 0)), (0, .ref (gb_ad G 9)), (1, .ref (gb_ad G (b)))]) O dX1_pour_50 rfl (by decide) rfl rfl ?_
        have LQ : ∀ (k : Nat) (j : Nat) (m2 : gb_M) (w2 : Nat), 3 - j = k → j ≤ 3 → w2 = sSum (mBell T pa) j → isM G m2 pa (fun m => if m < j then mBell T pa m else mAmt T pa m) w2 → sm mM m2 9 11 → Wm G X 3 Q 51 [(0, .ref (gb_ad G 9)), (1, .ref (gb_ad G (b))), (2, .int (nI (j)))] [] m2 := by
          intro k
          induction k using Nat.strongRecOn with
          | ind k ih_LQ =>
            intro j m2 w2 hk hj hw2 hM2 hs2
            have hwl := mWt_le ok hp (show j ≤ 3 by omega)
            refine w_iload_n (n := 52) O dX1_pour_51 rfl rfl rfl ?_
            refine w_iconst (n := 53) O dX1_pour_52 (v := (nI 3)) (by decide) rfl ?_
            refine w_icmp_geN (n := 56) (tgt := 107) O dX1_pour_53 (by omega) (by omega) (by decide) rfl (fun c_3 => ?_) (fun c_3 => ?_)
            · skip
              refine w_vret O dX1_pour_107 ?_
              have ej : j = 3 := by omega
              subst ej
              subst hw2
              exact hQ _ hM2 hs2
            · skip
              have hk2 := ok.2.2.1 j (by omega)
              have hk5 := ok.2.2.2.2.2
              have hb2 := mBell_le ok hp (show j < 3 by omega)
              have ha2 : mAmt T pa j ≤ 160 := mAmtI_le hp hn4
              refine w_aload_n (n := 57) O dX1_pour_56 rfl rfl rfl ?_
              refine w_getf (n := 60) O 1 dX1_pour_57 (by omega) hM2.1 rfl (by decide) uX1 uf_X1_15 rfl rfl ?_
              refine w_iload_n (n := 61) O dX1_pour_60 rfl rfl rfl ?_
              refine w_iconst (n := 62) O dX1_pour_61 (v := (nI 0)) (by decide) rfl ?_
              refine w_aload_n (n := 63) O dX1_pour_62 rfl rfl rfl ?_
              refine w_getf (n := 66) O 1 dX1_pour_63 (by omega) hM2.1 rfl (by decide) uX1 uf_X1_15 rfl rfl ?_
              refine w_iload_n (n := 67) O dX1_pour_66 rfl rfl rfl ?_
              refine w_ialdN (n := 68) O dX1_pour_67 hW.2.1 (by omega) hM2.2.2 (by omega) (by decide) rfl ?_
              refine w_aload_n (n := 69) O dX1_pour_68 rfl rfl rfl ?_
              refine w_getf (n := 72) O 1 dX1_pour_69 (by omega) ((hs2 (b) (by omega)).trans hT.1) rfl (by decide) uX5 uf_X1_41 rfl rfl ?_
              refine w_iload_n (n := 73) O dX1_pour_72 rfl rfl rfl ?_
              refine w_ialdN (n := 74) O dX1_pour_73 hW.2.1 (by omega) ((hs2 (b + 2) (by omega)).trans hT.2.2.1) (by omega) (by decide) rfl ?_
              refine w_iaddN (n := 75) O dX1_pour_74 rfl ?_
              refine w_aload_n (n := 76) O dX1_pour_75 rfl rfl rfl ?_
              refine w_getf (n := 79) O 2 dX1_pour_76 (by omega) ((hs2 (b) (by omega)).trans hT.1) rfl (by decide) uX5 uf_X1_44 rfl rfl ?_
              refine w_iload_n (n := 80) O dX1_pour_79 rfl rfl rfl ?_
              refine w_ialdN (n := 81) O dX1_pour_80 hW.2.1 (by omega) ((hs2 (b + 3) (by omega)).trans hT.2.2.2) (by omega) (by decide) rfl ?_
              refine w_isub (n := 82) O dX1_pour_81 rfl ?_
              refine w_mmax (n := 85) O dX1_pour_82 ul_X1_47 ux_static_max ui_java_lang_Math ux_code_max (by omega) (Nat.le_of_ble_eq_true rfl) rfl ?_
              refine w_top (nI (mBell T pa j)) (by simp only [Nat.lt_irrefl, if_false]; exact nI_max0 (by omega) (by omega)) ?_
              refine w_iastN (n := 86) O dX1_pour_85 hW.2.1 (by omega) hM2.2.2 (by omega) (by decide) rfl ?_
              refine w_aload_n (n := 87) O dX1_pour_86 rfl rfl rfl ?_
              refine w_dup (n := 88) O dX1_pour_87 rfl rfl ?_
              refine w_getf (n := 91) O 2 dX1_pour_88 (by omega) ((va_up_ne _ _ (by decide)).trans hM2.1) rfl (by decide) uX1 uf_X1_18 rfl rfl ?_
              refine w_aload_n (n := 92) O dX1_pour_91 rfl rfl rfl ?_
              refine w_getf (n := 95) O 1 dX1_pour_92 (by omega) ((va_up_ne _ _ (by decide)).trans hM2.1) rfl (by decide) uX1 uf_X1_15 rfl rfl ?_
              refine w_iload_n (n := 96) O dX1_pour_95 rfl rfl rfl ?_
              refine w_ialdN (n := 97) O dX1_pour_96 hW.2.1 (by omega) (va_up_self _ _ _) (by omega) (by decide) rfl ?_
              refine w_iaddN (n := 98) O dX1_pour_97 rfl ?_
              refine w_putf (n := 101) (fs' := [.ref (gb_ad G 10), .ref (gb_ad G 11), .int (nI ((w2 + ((upN (fun m => if m < j then mBell T pa m else mAmt T pa m) (j) (mBell T pa j)) (j)))))]) O 2 dX1_pour_98 (by omega) ((va_up_ne _ _ (by decide)).trans hM2.1) rfl (by decide) uX1 uf_X1_18 tyX1 tyX1_ok nmX1 rfl rfl rfl (Nat.le_of_ble_eq_true rfl) rfl rfl ?_
              refine w_iincN (n := 104) (lv' := [(2, .int (nI (j + 1))), (0, .ref (gb_ad G 9)), (1, .ref (gb_ad G (b)))]) O dX1_pour_101 rfl (by decide) rfl rfl ?_
              refine w_goto (tgt := 51) O dX1_pour_104 (by decide) ?_
              refine w_lv (lv2 := [(0, .ref (gb_ad G 9)), (1, .ref (gb_ad G (b))), (2, .int (nI (j + 1)))]) [1, 2, 0] rfl ?_
              exact ih_LQ _ (by omega) (j + 1) _ ((w2 + ((upN (fun m => if m < j then mBell T pa m else mAmt T pa m) (j) (mBell T pa j)) (j)))) rfl (by omega) (by simp only [sSum]; rw [hw2, upN_self]) (by rw [← upN_fill (mBell T pa) (mAmt T pa) j]; exact ⟨(va_up_self _ _ _), ((va_up_ne _ _ (by decide)).trans ((va_up_ne _ _ (by decide)).trans hM2.2.1)), ((va_up_ne _ _ (by decide)).trans (va_up_self _ _ _))⟩) ((hs2.up (by omega) (by omega)).up (by omega) (by omega))
        have e1 : a1 = fun m => mAmt T pa m := funext (fun m => by rw [hA m, show i = T.2.2.2.1 by omega]; rfl)
        refine w_lv (lv2 := [(0, .ref (gb_ad G 9)), (1, .ref (gb_ad G (b))), (2, .int (nI 0))]) [1, 2, 0] rfl ?_
        exact LQ _ 0 _ 0 rfl (by omega) rfl (by rw [show (fun m => if m < 0 then mBell T pa m else mAmt T pa m) = a1 by rw [e1]; funext m; simp]; exact ⟨(va_up_self _ _ _), ((va_up_ne _ _ (by decide)).trans hM1.2.1), ((va_up_ne _ _ (by decide)).trans hM1.2.2)⟩) (hs1.up (by omega) (by omega))
      · skip
        have hk1 := ok.2.1 i (by omega)
        have hp1 := hp i (by omega)
        refine w_aload_n (n := 19) O dX1_pour_18 rfl rfl rfl ?_
        refine w_getf (n := 22) O 1 dX1_pour_19 (by omega) hM1.1 rfl (by decide) uX1 uf_X1_15 rfl rfl ?_
        refine w_aload_n (n := 23) O dX1_pour_22 rfl rfl rfl ?_
        refine w_iload_n (n := 24) O dX1_pour_23 rfl rfl rfl ?_
        refine w_iconst (n := 25) O dX1_pour_24 (v := (nI 2)) (by decide) rfl ?_
        refine w_cV (n := 28) (ro := some (.int (nI (T.1 (i * 6 + 2))))) (R := fun mM' => m1 = mM') (st := [.ref (gb_ad G 11)]) (st1 := [.int (nI (T.1 (i * 6 + 2))), .ref (gb_ad G 11)]) (As := [.int (nI (i)), .int (nI 2)]) (b := b) O dX1_pour_25 ul_X1_37 um_X5_trait (f_X5_trait (T := T) hW ⟨((hs1 (b) (by omega)).trans hT.1), ((hs1 (b + 1) (by omega)).trans hT.2.1), ((hs1 (b + 2) (by omega)).trans hT.2.2.1), ((hs1 (b + 3) (by omega)).trans hT.2.2.2)⟩ (by omega) (by omega) ⟨rfl, rfl⟩) rfl (by omega) ((hs1 (b) (by omega)).trans hT.1) rfl rfl rfl rfl (by decide) (Nat.le_of_ble_eq_true rfl) rfl (fun mhM_4 hM_4 => ?_)
        subst hM_4
        refine w_dup2 (n := 29) O dX1_pour_28 rfl rfl rfl ?_
        refine w_ialdN (n := 30) O dX1_pour_29 hW.2.1 (by omega) hM1.2.2 (by omega) (by decide) rfl ?_
        refine w_aload_n (n := 31) O dX1_pour_30 rfl rfl rfl ?_
        refine w_getf (n := 34) O 0 dX1_pour_31 (by omega) hM1.1 rfl (by decide) uX1 uf_X1_9 rfl rfl ?_
        refine w_iload_n (n := 35) O dX1_pour_34 rfl rfl rfl ?_
        refine w_ialdN (n := 36) O dX1_pour_35 hW.2.1 (by omega) hM1.2.1 (by omega) (by decide) rfl ?_
        refine w_iaddN (n := 37) O dX1_pour_36 rfl ?_
        refine w_iastN (n := 38) O dX1_pour_37 hW.2.1 (by omega) hM1.2.2 (by omega) (by decide) rfl ?_
        refine w_iincN (n := 41) (lv' := [(2, .int (nI (i + 1))), (0, .ref (gb_ad G 9)), (1, .ref (gb_ad G (b)))]) O dX1_pour_38 rfl (by decide) rfl rfl ?_
        refine w_goto (tgt := 10) O dX1_pour_41 (by decide) ?_
        refine w_lv (lv2 := [(0, .ref (gb_ad G 9)), (1, .ref (gb_ad G (b))), (2, .int (nI (i + 1)))]) [1, 2, 0] rfl ?_
        exact ih_LP _ (by omega) (i + 1) _ _ rfl (by omega) (fun m => by simp only [upN, mAmtI, sSum]; rw [hA m, hA _]; simp only [mAmtI]; by_cases e : m = T.1 (i * 6 + 2); (subst e; simp); (rw [if_neg e, if_neg (fun q => e q.symm)]; rfl)) ⟨((va_up_ne _ _ (by decide)).trans hM1.1), ((va_up_ne _ _ (by decide)).trans hM1.2.1), (va_up_self _ _ _)⟩ (hs1.up (by omega) (by omega))
  refine w_lv (lv2 := [(0, .ref (gb_ad G 9)), (1, .ref (gb_ad G (b))), (2, .int (nI 0))]) [1, 2, 0] rfl ?_
  exact LP _ 0 _ (fun _ => 0) rfl (Nat.zero_le _) (fun _ => rfl) ⟨((va_up_ne _ _ (by decide)).trans hM.1), ((va_up_ne _ _ (by decide)).trans hM.2.1), (va_up_self _ _ _)⟩ (sm.rf.up (by omega) (by omega))
set_option maxRecDepth 100000 in
set_option maxHeartbeats 4000000 in
theorem f_X1_pitch {G : gb_G} (hW : gW G) {Q : Option Value → gb_M → Prop} {mM : gb_M} {pa am : Nat → Nat} {w : Nat} (hM : isM G mM pa am w) (ha : ∀ m, m < 3 → am m ≤ 200) (hw : w ≤ 600)  (hQ : Q (some (.int (oI (pNote am w)))) mM) : Fn G 0 yX1_pitch cX1_pitch 3 (some .int) [.ref (gb_ad G 9)] mM Q := by
  have hN := hW.2.2.1
  refine Fn.of hW.1 [(0, .ref (gb_ad G 9))] (by decide) (Nat.le_of_ble_eq_true rfl) rfl ?_
  intro X O
  refine w_aload_n (n := 1) O dX1_pitch_0 rfl rfl rfl ?_
  refine w_getf (n := 4) O 2 dX1_pitch_1 (by omega) hM.1 rfl (by decide) uX1 uf_X1_18 rfl rfl ?_
  refine w_if_gtN (n := 7) (tgt := 10) O dX1_pitch_4 (by omega) (by decide) rfl (fun c_1 => ?_) (fun c_1 => ?_)
  · skip
    refine w_iconst (n := 11) O dX1_pitch_10 (v := (nI 0)) (by decide) rfl ?_
    refine w_istore_n (n := 12) (lv' := [(1, .int (nI 0)), (0, .ref (gb_ad G 9))]) O dX1_pitch_11 rfl (by decide) rfl rfl ?_
    refine w_iconst (n := 13) O dX1_pitch_12 (v := (nI 0)) (by decide) rfl ?_
    refine w_istore_n (n := 14) (lv' := [(2, .int (nI 0)), (1, .int (nI 0)), (0, .ref (gb_ad G 9))]) O dX1_pitch_13 rfl (by decide) rfl rfl ?_
    have LN : ∀ (k : Nat) (i c : Nat), 3 - i = k → i ≤ 3 → c = sSum (fun m => gb_pit m * am m) i → c ≤ i * 2400 → Wm G X 3 Q 14 [(0, .ref (gb_ad G 9)), (1, .int (nI (c))), (2, .int (nI (i)))] [] mM := by
      intro k
      induction k using Nat.strongRecOn with
      | ind k ih_LN =>
        intro i c hk hi hc hcl
        refine w_iload_n (n := 15) O dX1_pitch_14 rfl rfl rfl ?_
        refine w_iconst (n := 16) O dX1_pitch_15 (v := (nI 3)) (by decide) rfl ?_
        refine w_icmp_geN (n := 19) (tgt := 40) O dX1_pitch_16 (by omega) (by omega) (by decide) rfl (fun c_2 => ?_) (fun c_2 => ?_)
        · skip
          refine w_iload_n (n := 41) O dX1_pitch_40 rfl rfl rfl ?_
          refine w_aload_n (n := 42) O dX1_pitch_41 rfl rfl rfl ?_
          refine w_getf (n := 45) O 2 dX1_pitch_42 (by omega) hM.1 rfl (by decide) uX1 uf_X1_18 rfl rfl ?_
          refine w_idivN (n := 46) O dX1_pitch_45 (by omega) (by omega) (by omega) rfl ?_
          refine w_iret O dX1_pitch_46 ?_
          have ei : i = 3 := by omega
          subst ei
          rw [show pNote am w = some (c / w) by unfold pNote; rw [if_neg (by omega), hc]; simp [sSum, gb_pit]] at hQ
          exact hQ
        · skip
          have ha1 := ha i (by omega)
          have hpt : gb_pit i ≤ 12 := by rcases (show i = 0 ∨ i = 1 ∨ i = 2 by omega) with e | e | e <;> (subst e; decide)
          have hml : gb_pit i * am i ≤ 2400 := Nat.le_trans (Nat.mul_le_mul hpt ha1) (by decide)
          refine w_iload_n (n := 20) O dX1_pitch_19 rfl rfl rfl ?_
          refine w_getsN (n := 23) O dX1_pitch_20 (gz_PIT hW O) (gz_NW0 hW O) rfl ?_
          refine w_iload_n (n := 24) O dX1_pitch_23 rfl rfl rfl ?_
          refine w_tald (n := 25) O dX1_pitch_24 (gz_PITt hW O) (by omega) (by decide) rfl ?_
          refine w_aload_n (n := 26) O dX1_pitch_25 rfl rfl rfl ?_
          refine w_getf (n := 29) O 1 dX1_pitch_26 (by omega) hM.1 rfl (by decide) uX1 uf_X1_15 rfl rfl ?_
          refine w_iload_n (n := 30) O dX1_pitch_29 rfl rfl rfl ?_
          refine w_ialdN (n := 31) O dX1_pitch_30 hW.2.1 (by omega) hM.2.2 (by omega) (by decide) rfl ?_
          refine w_imulN (n := 32) O dX1_pitch_31 rfl ?_
          refine w_iaddN (n := 33) O dX1_pitch_32 rfl ?_
          refine w_istore_n (n := 34) (lv' := [(1, .int (nI ((c + ((gb_pit (i)) * (am (i))))))), (0, .ref (gb_ad G 9)), (2, .int (nI (i)))]) O dX1_pitch_33 rfl (by decide) rfl rfl ?_
          refine w_iincN (n := 37) (lv' := [(2, .int (nI (i + 1))), (1, .int (nI ((c + ((gb_pit (i)) * (am (i))))))), (0, .ref (gb_ad G 9))]) O dX1_pitch_34 rfl (by decide) rfl rfl ?_
          refine w_goto (tgt := 14) O dX1_pitch_37 (by decide) ?_
          refine w_lv (lv2 := [(0, .ref (gb_ad G 9)), (1, .int (nI ((c + ((gb_pit (i)) * (am (i))))))), (2, .int (nI (i + 1)))]) [2, 1, 0] rfl ?_
          exact ih_LN _ (by omega) (i + 1) ((c + ((gb_pit (i)) * (am (i))))) rfl (by omega) (by simp only [sSum, hc]) (by rw [Nat.succ_mul]; omega)
    refine w_lv (lv2 := [(0, .ref (gb_ad G 9)), (1, .int (nI 0)), (2, .int (nI 0))]) [2, 1, 0] rfl ?_
    exact LN _ 0 0 rfl (by omega) rfl (by omega)
  · skip
    refine w_bipush (n := 9) O dX1_pitch_7 (v := (-4)) (by decide) rfl ?_
    refine w_iret O dX1_pitch_9 ?_
    rw [show pNote am w = none by unfold pNote; rw [if_pos (by omega)]] at hQ
    exact hQ
set_option maxRecDepth 100000 in
set_option maxHeartbeats 4000000 in
theorem f_X1_sweetness {G : gb_G} (hW : gW G) {Q : Option Value → gb_M → Prop} {mM : gb_M} {pa am : Nat → Nat} {w : Nat} (hM : isM G mM pa am w) (ha : ∀ m, m < 3 → am m ≤ 200) (hw : w ≤ 600)  (hQ : Q (some (.int (nI (pSweet am w)))) mM) : Fn G 0 yX1_sweetness cX1_sweetness 1 (some .int) [.ref (gb_ad G 9)] mM Q := by
  have hN := hW.2.2.1
  refine Fn.of hW.1 [(0, .ref (gb_ad G 9))] (by decide) (Nat.le_of_ble_eq_true rfl) rfl ?_
  intro X O
  have ha2 := ha 2 (by omega)
  refine w_aload_n (n := 1) O dX1_sweetness_0 rfl rfl rfl ?_
  refine w_getf (n := 4) O 2 dX1_sweetness_1 (by omega) hM.1 rfl (by decide) uX1 uf_X1_18 rfl rfl ?_
  refine w_if_gtN (n := 7) (tgt := 11) O dX1_sweetness_4 (by omega) (by decide) rfl (fun c_1 => ?_) (fun c_1 => ?_)
  · skip
    refine w_bipush (n := 13) O dX1_sweetness_11 (v := (nI 10)) (by decide) rfl ?_
    refine w_aload_n (n := 14) O dX1_sweetness_13 rfl rfl rfl ?_
    refine w_getf (n := 17) O 1 dX1_sweetness_14 (by omega) hM.1 rfl (by decide) uX1 uf_X1_15 rfl rfl ?_
    refine w_iconst (n := 18) O dX1_sweetness_17 (v := (nI 2)) (by decide) rfl ?_
    refine w_ialdN (n := 19) O dX1_sweetness_18 hW.2.1 (by omega) hM.2.2 (by omega) (by decide) rfl ?_
    refine w_imulN (n := 20) O dX1_sweetness_19 rfl ?_
    refine w_aload_n (n := 21) O dX1_sweetness_20 rfl rfl rfl ?_
    refine w_getf (n := 24) O 2 dX1_sweetness_21 (by omega) hM.1 rfl (by decide) uX1 uf_X1_18 rfl rfl ?_
    refine w_idivN (n := 25) O dX1_sweetness_24 (by omega) (by omega) (by omega) rfl ?_
    refine w_iret O dX1_sweetness_25 ?_
    have e : pSweet am w = ((10 * (am (2))) / w) := by unfold pSweet; first | rw [if_pos (by omega)] | rw [if_neg (by omega)]
    rw [e] at hQ
    exact hQ
  · skip
    refine w_iconst (n := 8) O dX1_sweetness_7 (v := (nI 0)) (by decide) rfl ?_
    refine w_goto (tgt := 25) O dX1_sweetness_8 (by decide) ?_
    refine w_iret O dX1_sweetness_25 ?_
    have e : pSweet am w = 0 := by unfold pSweet; first | rw [if_pos (by omega)] | rw [if_neg (by omega)]
    rw [e] at hQ
    exact hQ
set_option maxRecDepth 100000 in
set_option maxHeartbeats 4000000 in
theorem f_X1_isTrue {G : gb_G} (hW : gW G) {Q : Option Value → gb_M → Prop} {mM : gb_M} {b : Nat} {T : Tw} (hT : isT G mM b T) (hb : b + 3 < gb_N G) (ok : okT T) (hbm : b + 3 < 9 ∨ 11 < b) {pa am : Nat → Nat} {w : Nat} (hM : isM G mM pa am w) (ha : ∀ m, m < 3 → am m ≤ 200) (hw : w ≤ 600)  (hQ : Q (some (.int (bI (pTrue T am w)))) mM) : Fn G 1 yX1_isTrue cX1_isTrue 2 (some .boolean) [.ref (gb_ad G 9), .ref (gb_ad G (b))] mM Q := by
  have hN := hW.2.2.1
  refine Fn.of hW.1 [(0, .ref (gb_ad G 9)), (1, .ref (gb_ad G (b)))] (by decide) (Nat.le_of_ble_eq_true rfl) rfl ?_
  intro X O
  have hpb : ∀ k, pNote am w = some k → k < 2 ^ 31 := fun k hk => by have := pNote_le ha hk; omega
  have hsw := pSweet_le (w := w) ha
  have hk4 := ok.2.2.2.1
  have hk5 := ok.2.2.2.2.1
  refine w_aload_n (n := 1) O dX1_isTrue_0 rfl rfl rfl ?_
  refine w_cV (n := 4) (ro := some (.int (oI (pNote am w)))) (R := fun mM' => mM = mM') (st := []) (st1 := [.int (oI (pNote am w))]) (As := []) (b := 9) O dX1_isTrue_1 ul_X1_55 um_X1_pitch (f_X1_pitch hW ⟨hM.1, hM.2.1, hM.2.2⟩ ha hw ⟨rfl, rfl⟩) rfl (by omega) hM.1 rfl rfl rfl rfl (by decide) (Nat.le_of_ble_eq_true rfl) rfl (fun mhM_1 hM_1 => ?_)
  subst hM_1
  refine w_aload_n (n := 5) O dX1_isTrue_4 rfl rfl rfl ?_
  refine w_getf (n := 8) O 4 dX1_isTrue_5 (by omega) hT.1 rfl (by decide) uX5 uf_X1_59 rfl rfl ?_
  refine w_icmp_ne (n := 11) (tgt := 26) O dX1_isTrue_8 (by decide) rfl (fun c_2 => ?_) (fun c_2 => ?_)
  · skip
    refine w_iconst (n := 27) O dX1_isTrue_26 (v := (nI 0)) (by decide) rfl ?_
    refine w_zret O dX1_isTrue_27 (by decide) ?_
    have e : pTrue T am w = false := by unfold pTrue; simp only [Bool.and_eq_true, Bool.and_eq_false_iff, decide_eq_true_eq, decide_eq_false_iff_not]; first | exact Or.inl (fun q => c_2 ((oI_eq hpb (by omega)).mpr q)) | exact Or.inr (by omega)
    rw [e] at hQ
    exact hQ
  · skip
    refine w_aload_n (n := 12) O dX1_isTrue_11 rfl rfl rfl ?_
    refine w_cV (n := 15) (ro := some (.int (nI (pSweet am w)))) (R := fun mM' => mM = mM') (st := []) (st1 := [.int (nI (pSweet am w))]) (As := []) (b := 9) O dX1_isTrue_12 ul_X1_62 um_X1_sweetness (f_X1_sweetness hW ⟨hM.1, hM.2.1, hM.2.2⟩ ha hw ⟨rfl, rfl⟩) rfl (by omega) hM.1 rfl rfl rfl rfl (by decide) (Nat.le_of_ble_eq_true rfl) rfl (fun mhM_3 hM_3 => ?_)
    subst hM_3
    refine w_aload_n (n := 16) O dX1_isTrue_15 rfl rfl rfl ?_
    refine w_getf (n := 19) O 5 dX1_isTrue_16 (by omega) hT.1 rfl (by decide) uX5 uf_X1_65 rfl rfl ?_
    refine w_icmp_ltN (n := 22) (tgt := 26) O dX1_isTrue_19 (by omega) (by omega) (by decide) rfl (fun c_4 => ?_) (fun c_4 => ?_)
    · skip
      refine w_iconst (n := 27) O dX1_isTrue_26 (v := (nI 0)) (by decide) rfl ?_
      refine w_zret O dX1_isTrue_27 (by decide) ?_
      have e : pTrue T am w = false := by unfold pTrue; simp only [Bool.and_eq_true, Bool.and_eq_false_iff, decide_eq_true_eq, decide_eq_false_iff_not]; first | exact Or.inl (fun q => c_2 ((oI_eq hpb (by omega)).mpr q)) | exact Or.inr (by omega)
      rw [e] at hQ
      exact hQ
    · skip
      refine w_iconst (n := 23) O dX1_isTrue_22 (v := (nI 1)) (by decide) rfl ?_
      refine w_goto (tgt := 27) O dX1_isTrue_23 (by decide) ?_
      refine w_zret O dX1_isTrue_27 (by decide) ?_
      have e : pTrue T am w = true := by unfold pTrue; simp only [Bool.and_eq_true, Bool.and_eq_false_iff, decide_eq_true_eq, decide_eq_false_iff_not]; exact ⟨(oI_eq hpb (by omega)).mp (by first | exact c_2 | exact Classical.byContradiction c_2), by omega⟩
      rw [e] at hQ
      exact hQ
set_option maxRecDepth 100000 in
set_option maxHeartbeats 4000000 in
theorem f_X1_mostOf {G : gb_G} (hW : gW G) {Q : Option Value → gb_M → Prop} {mM : gb_M} {pa am : Nat → Nat} {w : Nat} (hM : isM G mM pa am w) (ha : ∀ m, m < 3 → am m ≤ 200) (hw : w ≤ 600)  (hQ : Q (some (.int (nI (sMx am 2)))) mM) : Fn G 0 yX1_mostOf cX1_mostOf 3 (some .int) [.ref (gb_ad G 9)] mM Q := by
  have hN := hW.2.2.1
  refine Fn.of hW.1 [(0, .ref (gb_ad G 9))] (by decide) (Nat.le_of_ble_eq_true rfl) rfl ?_
  intro X O
  refine w_iconst (n := 1) O dX1_mostOf_0 (v := (nI 0)) (by decide) rfl ?_
  refine w_istore_n (n := 2) (lv' := [(1, .int (nI 0)), (0, .ref (gb_ad G 9))]) O dX1_mostOf_1 rfl (by decide) rfl rfl ?_
  refine w_iconst (n := 3) O dX1_mostOf_2 (v := (nI 1)) (by decide) rfl ?_
  refine w_istore_n (n := 4) (lv' := [(2, .int (nI 1)), (1, .int (nI 0)), (0, .ref (gb_ad G 9))]) O dX1_mostOf_3 rfl (by decide) rfl rfl ?_
  have LM : ∀ (k : Nat) (j c : Nat), 2 - j = k → j ≤ 2 → c = sMx am j → Wm G X 3 Q 4 [(0, .ref (gb_ad G 9)), (1, .int (nI (c))), (2, .int (nI (j + 1)))] [] mM := by
    intro k
    induction k using Nat.strongRecOn with
    | ind k ih_LM =>
      intro j c hk hj hc
      have hcl : c ≤ j := by rw [hc]; exact sMx_le am j
      refine w_iload_n (n := 5) O dX1_mostOf_4 rfl rfl rfl ?_
      refine w_iconst (n := 6) O dX1_mostOf_5 (v := (nI 3)) (by decide) rfl ?_
      refine w_icmp_geN (n := 9) (tgt := 32) O dX1_mostOf_6 (by omega) (by omega) (by decide) rfl (fun c_1 => ?_) (fun c_1 => ?_)
      · skip
        refine w_iload_n (n := 33) O dX1_mostOf_32 rfl rfl rfl ?_
        refine w_iret O dX1_mostOf_33 ?_
        rw [show 2 = j by omega, ← hc] at hQ
        exact hQ
      · skip
        have ha1 := ha (j + 1) (by omega)
        have ha2 := ha c (by omega)
        refine w_aload_n (n := 10) O dX1_mostOf_9 rfl rfl rfl ?_
        refine w_getf (n := 13) O 1 dX1_mostOf_10 (by omega) hM.1 rfl (by decide) uX1 uf_X1_15 rfl rfl ?_
        refine w_iload_n (n := 14) O dX1_mostOf_13 rfl rfl rfl ?_
        refine w_ialdN (n := 15) O dX1_mostOf_14 hW.2.1 (by omega) hM.2.2 (by omega) (by decide) rfl ?_
        refine w_aload_n (n := 16) O dX1_mostOf_15 rfl rfl rfl ?_
        refine w_getf (n := 19) O 1 dX1_mostOf_16 (by omega) hM.1 rfl (by decide) uX1 uf_X1_15 rfl rfl ?_
        refine w_iload_n (n := 20) O dX1_mostOf_19 rfl rfl rfl ?_
        refine w_ialdN (n := 21) O dX1_mostOf_20 hW.2.1 (by omega) hM.2.2 (by omega) (by decide) rfl ?_
        refine w_icmp_leN (n := 24) (tgt := 26) O dX1_mostOf_21 (by omega) (by omega) (by decide) rfl (fun c_2 => ?_) (fun c_2 => ?_)
        · skip
          refine w_iincN (n := 29) (lv' := [(2, .int (nI ((j + 1) + 1))), (0, .ref (gb_ad G 9)), (1, .int (nI (c)))]) O dX1_mostOf_26 rfl (by decide) rfl rfl ?_
          refine w_goto (tgt := 4) O dX1_mostOf_29 (by decide) ?_
          refine w_lv (lv2 := [(0, .ref (gb_ad G 9)), (1, .int (nI (c))), (2, .int (nI ((j + 1) + 1)))]) [1, 2, 0] rfl ?_
          exact ih_LM _ (by omega) (j + 1) (c) rfl (by omega) (by simp only [sMx]; rw [← hc]; first | rw [if_pos (show am c < am (j + 1) by omega)] | rw [if_neg (show ¬ am c < am (j + 1) by omega)])
        · skip
          refine w_iload_n (n := 25) O dX1_mostOf_24 rfl rfl rfl ?_
          refine w_istore_n (n := 26) (lv' := [(1, .int (nI (j + 1))), (0, .ref (gb_ad G 9)), (2, .int (nI (j + 1)))]) O dX1_mostOf_25 rfl (by decide) rfl rfl ?_
          refine w_iincN (n := 29) (lv' := [(2, .int (nI ((j + 1) + 1))), (1, .int (nI (j + 1))), (0, .ref (gb_ad G 9))]) O dX1_mostOf_26 rfl (by decide) rfl rfl ?_
          refine w_goto (tgt := 4) O dX1_mostOf_29 (by decide) ?_
          refine w_lv (lv2 := [(0, .ref (gb_ad G 9)), (1, .int (nI (j + 1))), (2, .int (nI ((j + 1) + 1)))]) [2, 1, 0] rfl ?_
          exact ih_LM _ (by omega) (j + 1) (j + 1) rfl (by omega) (by simp only [sMx]; rw [← hc]; first | rw [if_pos (show am c < am (j + 1) by omega)] | rw [if_neg (show ¬ am c < am (j + 1) by omega)])
  refine w_lv (lv2 := [(0, .ref (gb_ad G 9)), (1, .int (nI 0)), (2, .int (nI 1))]) [2, 1, 0] rfl ?_
  exact LM _ 0 0 rfl (by omega) rfl
