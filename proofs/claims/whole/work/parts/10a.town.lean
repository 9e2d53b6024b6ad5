set_option maxRecDepth 100000 in
set_option maxHeartbeats 4000000 in
theorem f_X5_trait {G : gb_G} (hW : gW G) {Q : Option Value → gb_M → Prop} {mM : gb_M} {b : Nat} {T : Tw} (hT : isT G mM b T) (hb : b + 3 < gb_N G) {g w : Nat} (hi : g * 6 + w < 24) (hQ : Q (some (.int (nI (T.1 (g * 6 + w))))) mM) : Fn G 0 yX5_trait cX5_trait 3 (some .int) [.ref (gb_ad G (b)), .int (nI (g)), .int (nI (w))] mM Q := by
  have hN := hW.2.2.1
  refine Fn.of hW.1 [(0, .ref (gb_ad G (b))), (1, .int (nI (g))), (2, .int (nI (w)))] (by decide) (Nat.le_of_ble_eq_true rfl) rfl ?_
  intro X O
  refine w_aload_n (n := 1) O dX5_trait_0 rfl rfl rfl ?_
  refine w_getf (n := 4) O 0 dX5_trait_1 (by omega) hT.1 rfl (by decide) uX5 uf_X5_9 rfl rfl ?_
  refine w_iload_n (n := 5) O dX5_trait_4 rfl rfl rfl ?_
  refine w_bipush (n := 7) O dX5_trait_5 (v := (nI 6)) (by decide) rfl ?_
  refine w_imulN (n := 8) O dX5_trait_7 rfl ?_
  refine w_iload_n (n := 9) O dX5_trait_8 rfl rfl rfl ?_
  refine w_iaddN (n := 10) O dX5_trait_9 rfl ?_
  refine w_ialdN (n := 11) O dX5_trait_10 hW.2.1 (by omega) hT.2.1 (by omega) (by decide) rfl ?_
  refine w_iret O dX5_trait_11 ?_
  exact hQ
set_option maxRecDepth 100000 in
set_option maxHeartbeats 4000000 in
theorem f_X5_setTrait {G : gb_G} (hW : gW G) {Q : Option Value → gb_M → Prop} {mM : gb_M} {b : Nat} {T : Tw} (hT : isT G mM b T) (hb : b + 3 < gb_N G) {g w v : Nat} (hi : g * 6 + w < 24) (hQ : ∀ M', isT G M' b (upN T.1 (g * 6 + w) v, T.2) → sm mM M' b (b + 3) → Q none M') : Fn G 0 yX5_setTrait cX5_setTrait 4 none [.ref (gb_ad G (b)), .int (nI (g)), .int (nI (w)), .int (nI (v))] mM Q := by
  have hN := hW.2.2.1
  refine Fn.of hW.1 [(0, .ref (gb_ad G (b))), (1, .int (nI (g))), (2, .int (nI (w))), (3, .int (nI (v)))] (by decide) (Nat.le_of_ble_eq_true rfl) rfl ?_
  intro X O
  refine w_aload_n (n := 1) O dX5_setTrait_0 rfl rfl rfl ?_
  refine w_getf (n := 4) O 0 dX5_setTrait_1 (by omega) hT.1 rfl (by decide) uX5 uf_X5_9 rfl rfl ?_
  refine w_iload_n (n := 5) O dX5_setTrait_4 rfl rfl rfl ?_
  refine w_bipush (n := 7) O dX5_setTrait_5 (v := (nI 6)) (by decide) rfl ?_
  refine w_imulN (n := 8) O dX5_setTrait_7 rfl ?_
  refine w_iload_n (n := 9) O dX5_setTrait_8 rfl rfl rfl ?_
  refine w_iaddN (n := 10) O dX5_setTrait_9 rfl ?_
  refine w_iload_n (n := 11) O dX5_setTrait_10 rfl rfl rfl ?_
  refine w_iastN (n := 12) O dX5_setTrait_11 hW.2.1 (by omega) hT.2.1 (by omega) (by decide) rfl ?_
  refine w_vret O dX5_setTrait_12 ?_
  exact hQ _ ⟨((va_up_ne _ _ (by omega)).trans hT.1), (va_up_self _ _ _), ((va_up_ne _ _ (by omega)).trans hT.2.2.1), ((va_up_ne _ _ (by omega)).trans hT.2.2.2)⟩ (sm.rf.up (by omega) (by omega))
set_option maxRecDepth 100000 in
set_option maxHeartbeats 4000000 in
theorem f_X5_owes {G : gb_G} (hW : gW G) {Q : Option Value → gb_M → Prop} {mM : gb_M} {b : Nat} {T : Tw} (hT : isT G mM b T) (hb : b + 3 < gb_N G) (ok : okT T) {g : Nat} (hg : g < 4)  (hQ : Q (some (.int (nI (tOwes T g)))) mM) : Fn G 1 yX5_owes cX5_owes 3 (some .int) [.ref (gb_ad G (b)), .int (nI (g))] mM Q := by
  have hN := hW.2.2.1
  refine Fn.of hW.1 [(0, .ref (gb_ad G (b))), (1, .int (nI (g)))] (by decide) (Nat.le_of_ble_eq_true rfl) rfl ?_
  intro X O
  have hk := ok.2.1 g hg
  refine w_aload_n (n := 1) O dX5_owes_0 rfl rfl rfl ?_
  refine w_iload_n (n := 2) O dX5_owes_1 rfl rfl rfl ?_
  refine w_iconst (n := 3) O dX5_owes_2 (v := (nI 1)) (by decide) rfl ?_
  refine w_cV (n := 6) (ro := some (.int (nI (T.1 (g * 6 + 1))))) (R := fun mM' => mM = mM') (st := []) (st1 := [.int (nI (T.1 (g * 6 + 1)))]) (As := [.int (nI (g)), .int (nI 1)]) (b := b) O dX5_owes_3 ul_X5_46 um_X5_trait (f_X5_trait (T := T) hW ⟨hT.1, hT.2.1, hT.2.2.1, hT.2.2.2⟩ (by omega) (by omega) ⟨rfl, rfl⟩) rfl (by omega) hT.1 rfl rfl rfl rfl (by decide) (Nat.le_of_ble_eq_true rfl) rfl (fun mhM_1 hM_1 => ?_)
  subst hM_1
  refine w_istore_n (n := 7) (lv' := [(2, .int (nI (T.1 (g * 6 + 1)))), (0, .ref (gb_ad G (b))), (1, .int (nI (g)))]) O dX5_owes_6 rfl (by decide) rfl rfl ?_
  refine w_aload_n (n := 8) O dX5_owes_7 rfl rfl rfl ?_
  refine w_iload_n (n := 9) O dX5_owes_8 rfl rfl rfl ?_
  refine w_iconst (n := 10) O dX5_owes_9 (v := (nI 0)) (by decide) rfl ?_
  refine w_cV (n := 13) (ro := some (.int (nI (T.1 (g * 6 + 0))))) (R := fun mM' => mM = mM') (st := []) (st1 := [.int (nI (T.1 (g * 6 + 0)))]) (As := [.int (nI (g)), .int (nI 0)]) (b := b) O dX5_owes_10 ul_X5_46 um_X5_trait (f_X5_trait (T := T) hW ⟨hT.1, hT.2.1, hT.2.2.1, hT.2.2.2⟩ (by omega) (by omega) ⟨rfl, rfl⟩) rfl (by omega) hT.1 rfl rfl rfl rfl (by decide) (Nat.le_of_ble_eq_true rfl) rfl (fun mhM_2 hM_2 => ?_)
  subst hM_2
  rcases (show T.1 (g * 6 + 0) = 1 ∨ T.1 (g * 6 + 0) = 2 ∨ T.1 (g * 6 + 0) = 3 ∨ (T.1 (g * 6 + 0) < 1 ∨ 3 < T.1 (g * 6 + 0)) by omega) with sw_3 | sw_3 | sw_3 | sw_3
  · skip
    refine w_top (nI 1) (by rw [sw_3]) ?_
    refine w_tableIn (tgt := 40) O dX5_owes_13 (by decide) (by decide) rfl (by decide) ?_
    refine w_iload_n (n := 41) O dX5_owes_40 rfl rfl rfl ?_
    refine w_iconst (n := 42) O dX5_owes_41 (v := (nI 2)) (by decide) rfl ?_
    refine w_idivN (n := 43) O dX5_owes_42 (by omega) (by omega) (by omega) rfl ?_
    refine w_iret O dX5_owes_43 ?_
    have e : tOwes T g = ((T.1 (g * 6 + 1)) / 2) := by unfold tOwes; rw [sw_3]; rfl
    rw [e] at hQ
    exact hQ
  · skip
    refine w_top (nI 2) (by rw [sw_3]) ?_
    refine w_tableIn (tgt := 44) O dX5_owes_13 (by decide) (by decide) rfl (by decide) ?_
    refine w_iconst (n := 45) O dX5_owes_44 (v := (nI 2)) (by decide) rfl ?_
    refine w_iload_n (n := 46) O dX5_owes_45 rfl rfl rfl ?_
    refine w_imulN (n := 47) O dX5_owes_46 rfl ?_
    refine w_iret O dX5_owes_47 ?_
    have e : tOwes T g = (2 * (T.1 (g * 6 + 1))) := by unfold tOwes; rw [sw_3]; rfl
    rw [e] at hQ
    exact hQ
  · skip
    refine w_top (nI 3) (by rw [sw_3]) ?_
    refine w_tableIn (tgt := 48) O dX5_owes_13 (by decide) (by decide) rfl (by decide) ?_
    refine w_iconst (n := 49) O dX5_owes_48 (v := (nI 2)) (by decide) rfl ?_
    refine w_iload_n (n := 50) O dX5_owes_49 rfl rfl rfl ?_
    refine w_imulN (n := 51) O dX5_owes_50 rfl ?_
    refine w_iconst (n := 52) O dX5_owes_51 (v := (nI 3)) (by decide) rfl ?_
    refine w_iaddN (n := 53) O dX5_owes_52 rfl ?_
    refine w_iret O dX5_owes_53 ?_
    have e : tOwes T g = ((2 * (T.1 (g * 6 + 1))) + 3) := by unfold tOwes; rw [sw_3]; rfl
    rw [e] at hQ
    exact hQ
  · skip
    refine w_tableOut (tgt := 54) O dX5_owes_13 (by rw [nI_toInt (by omega)]; omega) (by decide) ?_
    refine w_iload_n (n := 55) O dX5_owes_54 rfl rfl rfl ?_
    refine w_iret O dX5_owes_55 ?_
    have e : tOwes T g = T.1 (g * 6 + 1) := by unfold tOwes sOwes; rw [if_neg (by omega), if_neg (by omega), if_neg (by omega)]
    rw [e] at hQ
    exact hQ
set_option maxRecDepth 100000 in
set_option maxHeartbeats 4000000 in
theorem f_X5_isHalved {G : gb_G} (hW : gW G) {Q : Option Value → gb_M → Prop} {mM : gb_M} {b : Nat} {T : Tw} (hT : isT G mM b T) (hb : b + 3 < gb_N G) (ok : okT T) {g : Nat} (hg : g < 4)  (hQ : Q (some (.int (bI (tHalv T g)))) mM) : Fn G 1 yX5_isHalved cX5_isHalved 4 (some .boolean) [.ref (gb_ad G (b)), .int (nI (g))] mM Q := by
  have hN := hW.2.2.1
  refine Fn.of hW.1 [(0, .ref (gb_ad G (b))), (1, .int (nI (g)))] (by decide) (Nat.le_of_ble_eq_true rfl) rfl ?_
  intro X O
  have hn4 := ok.1
  refine w_iconst (n := 1) O dX5_isHalved_0 (v := (nI 0)) (by decide) rfl ?_
  refine w_istore_n (n := 2) (lv' := [(2, .int (nI 0)), (0, .ref (gb_ad G (b))), (1, .int (nI (g)))]) O dX5_isHalved_1 rfl (by decide) rfl rfl ?_
  refine w_iconst (n := 3) O dX5_isHalved_2 (v := (nI 0)) (by decide) rfl ?_
  refine w_istore_n (n := 4) (lv' := [(3, .int (nI 0)), (2, .int (nI 0)), (0, .ref (gb_ad G (b))), (1, .int (nI (g)))]) O dX5_isHalved_3 rfl (by decide) rfl rfl ?_
  have LH : ∀ (k : Nat) (i c : Nat), T.2.2.2.1 - i = k → i ≤ T.2.2.2.1 → c = sCnt (tOth T g) i → sAll (tRue T g) i = true → Wm G X 4 Q 4 [(0, .ref (gb_ad G (b))), (1, .int (nI (g))), (2, .int (nI (c))), (3, .int (nI (i)))] [] mM := by
    intro k
    induction k using Nat.strongRecOn with
    | ind k ih_LH =>
      intro i c hk hi hc ha
      have hcl := sCnt_le (tOth T g) i
      refine w_iload_n (n := 5) O dX5_isHalved_4 rfl rfl rfl ?_
      refine w_aload_n (n := 6) O dX5_isHalved_5 rfl rfl rfl ?_
      refine w_getf (n := 9) O 3 dX5_isHalved_6 (by omega) hT.1 rfl (by decide) uX5 uf_X5_21 rfl rfl ?_
      refine w_icmp_geN (n := 12) (tgt := 52) O dX5_isHalved_9 (by omega) (by omega) (by decide) rfl (fun c_1 => ?_) (fun c_1 => ?_)
      · skip
        refine w_iload_n (n := 53) O dX5_isHalved_52 rfl rfl rfl ?_
        refine w_if_leN (n := 56) (tgt := 60) O dX5_isHalved_53 (by omega) (by decide) rfl (fun c_2 => ?_) (fun c_2 => ?_)
        · skip
          refine w_iconst (n := 61) O dX5_isHalved_60 (v := (nI 0)) (by decide) rfl ?_
          refine w_zret O dX5_isHalved_61 (by decide) ?_
          have en : T.2.2.2.1 = i := by omega
          have e : bI (tHalv T g) = nI 0 := by unfold tHalv; rw [en, ha, ← hc, decide_eq_false (by omega : ¬ 0 < c)]; rfl
          rw [e] at hQ
          exact hQ
        · skip
          refine w_iconst (n := 57) O dX5_isHalved_56 (v := (nI 1)) (by decide) rfl ?_
          refine w_goto (tgt := 61) O dX5_isHalved_57 (by decide) ?_
          refine w_zret O dX5_isHalved_61 (by decide) ?_
          have en : T.2.2.2.1 = i := by omega
          have e : bI (tHalv T g) = nI 1 := by unfold tHalv; rw [en, ha, ← hc, decide_eq_true (by omega : 0 < c)]; rfl
          rw [e] at hQ
          exact hQ
      · skip
        have hk1 := ok.2.1 i (by omega)
        have hk2 := ok.2.1 g hg
        refine w_aload_n (n := 13) O dX5_isHalved_12 rfl rfl rfl ?_
        refine w_iload_n (n := 14) O dX5_isHalved_13 rfl rfl rfl ?_
        refine w_iconst (n := 15) O dX5_isHalved_14 (v := (nI 3)) (by decide) rfl ?_
        refine w_cV (n := 18) (ro := some (.int (nI (T.1 (i * 6 + 3))))) (R := fun mM' => mM = mM') (st := []) (st1 := [.int (nI (T.1 (i * 6 + 3)))]) (As := [.int (nI (i)), .int (nI 3)]) (b := b) O dX5_isHalved_15 ul_X5_46 um_X5_trait (f_X5_trait (T := T) hW ⟨hT.1, hT.2.1, hT.2.2.1, hT.2.2.2⟩ (by omega) (by omega) ⟨rfl, rfl⟩) rfl (by omega) hT.1 rfl rfl rfl rfl (by decide) (Nat.le_of_ble_eq_true rfl) rfl (fun mhM_3 hM_3 => ?_)
        subst hM_3
        refine w_aload_n (n := 19) O dX5_isHalved_18 rfl rfl rfl ?_
        refine w_iload_n (n := 20) O dX5_isHalved_19 rfl rfl rfl ?_
        refine w_iconst (n := 21) O dX5_isHalved_20 (v := (nI 3)) (by decide) rfl ?_
        refine w_cV (n := 24) (ro := some (.int (nI (T.1 (g * 6 + 3))))) (R := fun mM' => mM = mM') (st := [.int (nI (T.1 (i * 6 + 3)))]) (st1 := [.int (nI (T.1 (g * 6 + 3))), .int (nI (T.1 (i * 6 + 3)))]) (As := [.int (nI (g)), .int (nI 3)]) (b := b) O dX5_isHalved_21 ul_X5_46 um_X5_trait (f_X5_trait (T := T) hW ⟨hT.1, hT.2.1, hT.2.2.1, hT.2.2.2⟩ (by omega) (by omega) ⟨rfl, rfl⟩) rfl (by omega) hT.1 rfl rfl rfl rfl (by decide) (Nat.le_of_ble_eq_true rfl) rfl (fun mhM_4 hM_4 => ?_)
        subst hM_4
        refine w_icmp_neN (n := 27) (tgt := 46) O dX5_isHalved_24 (by omega) (by omega) (by decide) rfl (fun c_5 => ?_) (fun c_5 => ?_)
        · skip
          refine w_iincN (n := 49) (lv' := [(3, .int (nI (i + 1))), (0, .ref (gb_ad G (b))), (1, .int (nI (g))), (2, .int (nI (c)))]) O dX5_isHalved_46 rfl (by decide) rfl rfl ?_
          refine w_goto (tgt := 4) O dX5_isHalved_49 (by decide) ?_
          refine w_lv (lv2 := [(0, .ref (gb_ad G (b))), (1, .int (nI (g))), (2, .int (nI (c))), (3, .int (nI (i + 1)))]) [1, 2, 3, 0] rfl ?_
          exact ih_LH _ (by omega) (i + 1) (c) rfl (by omega) (by rw [sCnt, ← hc]; simp [tOth] <;> omega) (by rw [sAll, ha]; simp [tRue] <;> omega)
        · skip
          refine w_aload_n (n := 28) O dX5_isHalved_27 rfl rfl rfl ?_
          refine w_iload_n (n := 29) O dX5_isHalved_28 rfl rfl rfl ?_
          refine w_iconst (n := 30) O dX5_isHalved_29 (v := (nI 4)) (by decide) rfl ?_
          refine w_cV (n := 33) (ro := some (.int (nI (T.1 (i * 6 + 4))))) (R := fun mM' => mM = mM') (st := []) (st1 := [.int (nI (T.1 (i * 6 + 4)))]) (As := [.int (nI (i)), .int (nI 4)]) (b := b) O dX5_isHalved_30 ul_X5_46 um_X5_trait (f_X5_trait (T := T) hW ⟨hT.1, hT.2.1, hT.2.2.1, hT.2.2.2⟩ (by omega) (by omega) ⟨rfl, rfl⟩) rfl (by omega) hT.1 rfl rfl rfl rfl (by decide) (Nat.le_of_ble_eq_true rfl) rfl (fun mhM_6 hM_6 => ?_)
          subst hM_6
          refine w_if_neN (n := 36) (tgt := 38) O dX5_isHalved_33 (by omega) (by decide) rfl (fun c_7 => ?_) (fun c_7 => ?_)
          · skip
            refine w_iload_n (n := 39) O dX5_isHalved_38 rfl rfl rfl ?_
            refine w_iload_n (n := 40) O dX5_isHalved_39 rfl rfl rfl ?_
            refine w_icmp_eqN (n := 43) (tgt := 46) O dX5_isHalved_40 (by omega) (by omega) (by decide) rfl (fun c_8 => ?_) (fun c_8 => ?_)
            · skip
              refine w_iincN (n := 49) (lv' := [(3, .int (nI (i + 1))), (0, .ref (gb_ad G (b))), (1, .int (nI (g))), (2, .int (nI (c)))]) O dX5_isHalved_46 rfl (by decide) rfl rfl ?_
              refine w_goto (tgt := 4) O dX5_isHalved_49 (by decide) ?_
              refine w_lv (lv2 := [(0, .ref (gb_ad G (b))), (1, .int (nI (g))), (2, .int (nI (c))), (3, .int (nI (i + 1)))]) [1, 2, 3, 0] rfl ?_
              exact ih_LH _ (by omega) (i + 1) (c) rfl (by omega) (by rw [sCnt, ← hc]; simp [tOth] <;> omega) (by rw [sAll, ha]; simp [tRue] <;> omega)
            · skip
              refine w_iincN (n := 46) (lv' := [(2, .int (nI (c + 1))), (0, .ref (gb_ad G (b))), (1, .int (nI (g))), (3, .int (nI (i)))]) O dX5_isHalved_43 rfl (by decide) rfl rfl ?_
              refine w_iincN (n := 49) (lv' := [(3, .int (nI (i + 1))), (2, .int (nI (c + 1))), (0, .ref (gb_ad G (b))), (1, .int (nI (g)))]) O dX5_isHalved_46 rfl (by decide) rfl rfl ?_
              refine w_goto (tgt := 4) O dX5_isHalved_49 (by decide) ?_
              refine w_lv (lv2 := [(0, .ref (gb_ad G (b))), (1, .int (nI (g))), (2, .int (nI (c + 1))), (3, .int (nI (i + 1)))]) [2, 3, 1, 0] rfl ?_
              exact ih_LH _ (by omega) (i + 1) (c + 1) rfl (by omega) (by rw [sCnt, ← hc]; simp [tOth] <;> omega) (by rw [sAll, ha]; simp [tRue] <;> omega)
          · skip
            refine w_iconst (n := 37) O dX5_isHalved_36 (v := (nI 0)) (by decide) rfl ?_
            refine w_zret O dX5_isHalved_37 (by decide) ?_
            have e : bI (tHalv T g) = nI 0 := by unfold tHalv; rw [sAll_no (i := i) (by simp [tRue, *]) (by omega)]; rfl
            rw [e] at hQ
            exact hQ
  refine w_lv (lv2 := [(0, .ref (gb_ad G (b))), (1, .int (nI (g))), (2, .int (nI 0)), (3, .int (nI 0))]) [2, 3, 1, 0] rfl ?_
  exact LH _ 0 0 rfl (Nat.zero_le _) rfl rfl
set_option maxRecDepth 100000 in
set_option maxHeartbeats 4000000 in
theorem f_X5_share {G : gb_G} (hW : gW G) {Q : Option Value → gb_M → Prop} {mM : gb_M} {b : Nat} {T : Tw} (hT : isT G mM b T) (hb : b + 3 < gb_N G) (ok : okT T) {g : Nat} (hg : g < 4)  (hQ : Q (some (.int (nI (tShare T g)))) mM) : Fn G 2 yX5_share cX5_share 2 (some .int) [.ref (gb_ad G (b)), .int (nI (g))] mM Q := by
  have hN := hW.2.2.1
  refine Fn.of hW.1 [(0, .ref (gb_ad G (b))), (1, .int (nI (g)))] (by decide) (Nat.le_of_ble_eq_true rfl) rfl ?_
  intro X O
  have ho := tOwes_le ok hg
  refine w_aload_n (n := 1) O dX5_share_0 rfl rfl rfl ?_
  refine w_iload_n (n := 2) O dX5_share_1 rfl rfl rfl ?_
  refine w_cV (n := 5) (ro := some (.int (bI (tHalv T (g))))) (R := fun mM' => mM = mM') (st := []) (st1 := [.int (bI (tHalv T (g)))]) (As := [.int (nI (g))]) (b := b) O dX5_share_2 ul_X5_50 um_X5_isHalved (f_X5_isHalved (T := T) hW ⟨hT.1, hT.2.1, hT.2.2.1, hT.2.2.2⟩ (by omega) ok (by omega) ⟨rfl, rfl⟩) rfl (by omega) hT.1 rfl rfl rfl rfl (by decide) (Nat.le_of_ble_eq_true rfl) rfl (fun mhM_1 hM_1 => ?_)
  subst hM_1
  refine w_if_eqB (n := 8) (tgt := 20) O dX5_share_5 (by decide) rfl (fun c_2 => ?_) (fun c_2 => ?_)
  · skip
    refine w_aload_n (n := 21) O dX5_share_20 rfl rfl rfl ?_
    refine w_iload_n (n := 22) O dX5_share_21 rfl rfl rfl ?_
    refine w_cV (n := 25) (ro := some (.int (nI (tOwes T (g))))) (R := fun mM' => mM = mM') (st := []) (st1 := [.int (nI (tOwes T (g)))]) (As := [.int (nI (g))]) (b := b) O dX5_share_22 ul_X5_54 um_X5_owes (f_X5_owes (T := T) hW ⟨hT.1, hT.2.1, hT.2.2.1, hT.2.2.2⟩ (by omega) ok (by omega) ⟨rfl, rfl⟩) rfl (by omega) hT.1 rfl rfl rfl rfl (by decide) (Nat.le_of_ble_eq_true rfl) rfl (fun mhM_3 hM_3 => ?_)
    subst hM_3
    refine w_iret O dX5_share_25 ?_
    have e : tShare T g = tOwes T (g) := by unfold tShare; simp [*]
    rw [e] at hQ
    exact hQ
  · skip
    refine w_aload_n (n := 9) O dX5_share_8 rfl rfl rfl ?_
    refine w_iload_n (n := 10) O dX5_share_9 rfl rfl rfl ?_
    refine w_cV (n := 13) (ro := some (.int (nI (tOwes T (g))))) (R := fun mM' => mM = mM') (st := []) (st1 := [.int (nI (tOwes T (g)))]) (As := [.int (nI (g))]) (b := b) O dX5_share_10 ul_X5_54 um_X5_owes (f_X5_owes (T := T) hW ⟨hT.1, hT.2.1, hT.2.2.1, hT.2.2.2⟩ (by omega) ok (by omega) ⟨rfl, rfl⟩) rfl (by omega) hT.1 rfl rfl rfl rfl (by decide) (Nat.le_of_ble_eq_true rfl) rfl (fun mhM_4 hM_4 => ?_)
    subst hM_4
    refine w_iconst (n := 14) O dX5_share_13 (v := (nI 1)) (by decide) rfl ?_
    refine w_iaddN (n := 15) O dX5_share_14 rfl ?_
    refine w_iconst (n := 16) O dX5_share_15 (v := (nI 2)) (by decide) rfl ?_
    refine w_idivN (n := 17) O dX5_share_16 (by omega) (by omega) (by omega) rfl ?_
    refine w_goto (tgt := 25) O dX5_share_17 (by decide) ?_
    refine w_iret O dX5_share_25 ?_
    have e : tShare T g = (((tOwes T (g)) + 1) / 2) := by unfold tShare; simp [*]
    rw [e] at hQ
    exact hQ
set_option maxRecDepth 100000 in
set_option maxHeartbeats 4000000 in
theorem f_X5_gives {G : gb_G} (hW : gW G) {Q : Option Value → gb_M → Prop} {mM : gb_M} {b : Nat} {T : Tw} (hT : isT G mM b T) (hb : b + 3 < gb_N G) (ok : okT T) {g : Nat} (hg : g < 4)  (hQ : Q (some (.int (nI (tGives T g)))) mM) : Fn G 3 yX5_gives cX5_gives 2 (some .int) [.ref (gb_ad G (b)), .int (nI (g))] mM Q := by
  have hN := hW.2.2.1
  refine Fn.of hW.1 [(0, .ref (gb_ad G (b))), (1, .int (nI (g)))] (by decide) (Nat.le_of_ble_eq_true rfl) rfl ?_
  intro X O
  have ho := tShare_le ok hg
  have hk := ok.2.1 g hg
  refine w_iconst (n := 1) O dX5_gives_0 (v := (nI 0)) (by decide) rfl ?_
  refine w_aload_n (n := 2) O dX5_gives_1 rfl rfl rfl ?_
  refine w_iload_n (n := 3) O dX5_gives_2 rfl rfl rfl ?_
  refine w_cV (n := 6) (ro := some (.int (nI (tShare T (g))))) (R := fun mM' => mM = mM') (st := [.int (nI 0)]) (st1 := [.int (nI (tShare T (g))), .int (nI 0)]) (As := [.int (nI (g))]) (b := b) O dX5_gives_3 ul_X5_58 um_X5_share (f_X5_share (T := T) hW ⟨hT.1, hT.2.1, hT.2.2.1, hT.2.2.2⟩ (by omega) ok (by omega) ⟨rfl, rfl⟩) rfl (by omega) hT.1 rfl rfl rfl rfl (by decide) (Nat.le_of_ble_eq_true rfl) rfl (fun mhM_1 hM_1 => ?_)
  subst hM_1
  refine w_aload_n (n := 7) O dX5_gives_6 rfl rfl rfl ?_
  refine w_iload_n (n := 8) O dX5_gives_7 rfl rfl rfl ?_
  refine w_iconst (n := 9) O dX5_gives_8 (v := (nI 5)) (by decide) rfl ?_
  refine w_cV (n := 12) (ro := some (.int (nI (T.1 (g * 6 + 5))))) (R := fun mM' => mM = mM') (st := [.int (nI (tShare T (g))), .int (nI 0)]) (st1 := [.int (nI (T.1 (g * 6 + 5))), .int (nI (tShare T (g))), .int (nI 0)]) (As := [.int (nI (g)), .int (nI 5)]) (b := b) O dX5_gives_9 ul_X5_46 um_X5_trait (f_X5_trait (T := T) hW ⟨hT.1, hT.2.1, hT.2.2.1, hT.2.2.2⟩ (by omega) (by omega) ⟨rfl, rfl⟩) rfl (by omega) hT.1 rfl rfl rfl rfl (by decide) (Nat.le_of_ble_eq_true rfl) rfl (fun mhM_2 hM_2 => ?_)
  subst hM_2
  refine w_isub (n := 13) O dX5_gives_12 rfl ?_
  refine w_mmax (n := 16) O dX5_gives_13 ul_X5_61 ux_static_max ui_java_lang_Math ux_code_max (by omega) (Nat.le_of_ble_eq_true rfl) rfl ?_
  refine w_top (nI (tShare T g - T.1 (g * 6 + 5))) (nI_max0 (by omega) (by omega)) ?_
  refine w_iret O dX5_gives_16 ?_
  exact hQ
