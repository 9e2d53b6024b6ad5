set_option maxRecDepth 100000 in
set_option maxHeartbeats 4000000 in
theorem f_X5_allGiven {G : gb_G} (hW : gW G) {Q : Option Value → gb_M → Prop} {mM : gb_M} {b : Nat} {T : Tw} (hT : isT G mM b T) (hb : b + 3 < gb_N G) (ok : okT T) (hQ : Q (some (.int (nI (sSum (tGives T) T.2.2.2.1)))) mM) : Fn G 4 yX5_allGiven cX5_allGiven 3 (some .int) [.ref (gb_ad G (b))] mM Q := by
  have hN := hW.2.2.1
  refine Fn.of hW.1 [(0, .ref (gb_ad G (b)))] (by decide) (Nat.le_of_ble_eq_true rfl) rfl ?_
  intro X O
  have hn4 := ok.1
  refine w_iconst (n := 1) O dX5_allGiven_0 (v := (nI 0)) (by decide) rfl ?_
  refine w_istore_n (n := 2) (lv' := [(1, .int (nI 0)), (0, .ref (gb_ad G (b)))]) O dX5_allGiven_1 rfl (by decide) rfl rfl ?_
  refine w_iconst (n := 3) O dX5_allGiven_2 (v := (nI 0)) (by decide) rfl ?_
  refine w_istore_n (n := 4) (lv' := [(2, .int (nI 0)), (1, .int (nI 0)), (0, .ref (gb_ad G (b)))]) O dX5_allGiven_3 rfl (by decide) rfl rfl ?_
  have LA : ∀ (k : Nat) (i c : Nat), T.2.2.2.1 - i = k → i ≤ T.2.2.2.1 → c = sSum (tGives T) i → Wm G X 3 Q 4 [(0, .ref (gb_ad G (b))), (1, .int (nI (c))), (2, .int (nI (i)))] [] mM := by
    intro k
    induction k using Nat.strongRecOn with
    | ind k ih_LA =>
      intro i c hk hi hc
      refine w_iload_n (n := 5) O dX5_allGiven_4 rfl rfl rfl ?_
      refine w_aload_n (n := 6) O dX5_allGiven_5 rfl rfl rfl ?_
      refine w_getf (n := 9) O 3 dX5_allGiven_6 (by omega) hT.1 rfl (by decide) uX5 uf_X5_21 rfl rfl ?_
      refine w_icmp_geN (n := 12) (tgt := 26) O dX5_allGiven_9 (by omega) (by omega) (by decide) rfl (fun c_1 => ?_) (fun c_1 => ?_)
      · skip
        refine w_iload_n (n := 27) O dX5_allGiven_26 rfl rfl rfl ?_
        refine w_iret O dX5_allGiven_27 ?_
        rw [show T.2.2.2.1 = i by omega, ← hc] at hQ
        exact hQ
      · skip
        refine w_iload_n (n := 13) O dX5_allGiven_12 rfl rfl rfl ?_
        refine w_aload_n (n := 14) O dX5_allGiven_13 rfl rfl rfl ?_
        refine w_iload_n (n := 15) O dX5_allGiven_14 rfl rfl rfl ?_
        refine w_cV (n := 18) (ro := some (.int (nI (tGives T (i))))) (R := fun mM' => mM = mM') (st := [.int (nI (c))]) (st1 := [.int (nI (tGives T (i))), .int (nI (c))]) (As := [.int (nI (i))]) (b := b) O dX5_allGiven_15 ul_X5_66 um_X5_gives (f_X5_gives (T := T) hW ⟨hT.1, hT.2.1, hT.2.2.1, hT.2.2.2⟩ (by omega) ok (by omega) ⟨rfl, rfl⟩) rfl (by omega) hT.1 rfl rfl rfl rfl (by decide) (Nat.le_of_ble_eq_true rfl) rfl (fun mhM_2 hM_2 => ?_)
        subst hM_2
        refine w_iaddN (n := 19) O dX5_allGiven_18 rfl ?_
        refine w_istore_n (n := 20) (lv' := [(1, .int (nI ((c + (tGives T (i)))))), (0, .ref (gb_ad G (b))), (2, .int (nI (i)))]) O dX5_allGiven_19 rfl (by decide) rfl rfl ?_
        refine w_iincN (n := 23) (lv' := [(2, .int (nI (i + 1))), (1, .int (nI ((c + (tGives T (i)))))), (0, .ref (gb_ad G (b)))]) O dX5_allGiven_20 rfl (by decide) rfl rfl ?_
        refine w_goto (tgt := 4) O dX5_allGiven_23 (by decide) ?_
        refine w_lv (lv2 := [(0, .ref (gb_ad G (b))), (1, .int (nI ((c + (tGives T (i)))))), (2, .int (nI (i + 1)))]) [2, 1, 0] rfl ?_
        exact ih_LA _ (by omega) (i + 1) ((c + (tGives T (i)))) rfl (by omega) (by simp only [sSum, hc])
  refine w_lv (lv2 := [(0, .ref (gb_ad G (b))), (1, .int (nI 0)), (2, .int (nI 0))]) [2, 1, 0] rfl ?_
  exact LA _ 0 0 rfl (Nat.zero_le _) rfl
set_option maxRecDepth 100000 in
set_option maxHeartbeats 4000000 in
theorem f_X5_sum {G : gb_G} (hW : gW G) {Q : Option Value → gb_M → Prop} {mM : gb_M} {b : Nat} {T : Tw} (hT : isT G mM b T) (hb : b + 3 < gb_N G) (ok : okT T) {w : Nat} (hw : w < 6) (hQ : Q (some (.int (nI (sSum (fun g => T.1 (g * 6 + w)) T.2.2.2.1)))) mM) : Fn G 1 yX5_sum cX5_sum 4 (some .int) [.ref (gb_ad G (b)), .int (nI (w))] mM Q := by
  have hN := hW.2.2.1
  refine Fn.of hW.1 [(0, .ref (gb_ad G (b))), (1, .int (nI (w)))] (by decide) (Nat.le_of_ble_eq_true rfl) rfl ?_
  intro X O
  have hn4 := ok.1
  refine w_iconst (n := 1) O dX5_sum_0 (v := (nI 0)) (by decide) rfl ?_
  refine w_istore_n (n := 2) (lv' := [(2, .int (nI 0)), (0, .ref (gb_ad G (b))), (1, .int (nI (w)))]) O dX5_sum_1 rfl (by decide) rfl rfl ?_
  refine w_iconst (n := 3) O dX5_sum_2 (v := (nI 0)) (by decide) rfl ?_
  refine w_istore_n (n := 4) (lv' := [(3, .int (nI 0)), (2, .int (nI 0)), (0, .ref (gb_ad G (b))), (1, .int (nI (w)))]) O dX5_sum_3 rfl (by decide) rfl rfl ?_
  have LA : ∀ (k : Nat) (i c : Nat), T.2.2.2.1 - i = k → i ≤ T.2.2.2.1 → c = sSum (fun g => T.1 (g * 6 + w)) i → Wm G X 4 Q 4 [(0, .ref (gb_ad G (b))), (1, .int (nI (w))), (2, .int (nI (c))), (3, .int (nI (i)))] [] mM := by
    intro k
    induction k using Nat.strongRecOn with
    | ind k ih_LA =>
      intro i c hk hi hc
      refine w_iload_n (n := 5) O dX5_sum_4 rfl rfl rfl ?_
      refine w_aload_n (n := 6) O dX5_sum_5 rfl rfl rfl ?_
      refine w_getf (n := 9) O 3 dX5_sum_6 (by omega) hT.1 rfl (by decide) uX5 uf_X5_21 rfl rfl ?_
      refine w_icmp_geN (n := 12) (tgt := 27) O dX5_sum_9 (by omega) (by omega) (by decide) rfl (fun c_1 => ?_) (fun c_1 => ?_)
      · skip
        refine w_iload_n (n := 28) O dX5_sum_27 rfl rfl rfl ?_
        refine w_iret O dX5_sum_28 ?_
        rw [show T.2.2.2.1 = i by omega, ← hc] at hQ
        exact hQ
      · skip
        refine w_iload_n (n := 13) O dX5_sum_12 rfl rfl rfl ?_
        refine w_aload_n (n := 14) O dX5_sum_13 rfl rfl rfl ?_
        refine w_iload_n (n := 15) O dX5_sum_14 rfl rfl rfl ?_
        refine w_iload_n (n := 16) O dX5_sum_15 rfl rfl rfl ?_
        refine w_cV (n := 19) (ro := some (.int (nI (T.1 (i * 6 + w))))) (R := fun mM' => mM = mM') (st := [.int (nI (c))]) (st1 := [.int (nI (T.1 (i * 6 + w))), .int (nI (c))]) (As := [.int (nI (i)), .int (nI (w))]) (b := b) O dX5_sum_16 ul_X5_46 um_X5_trait (f_X5_trait (T := T) hW ⟨hT.1, hT.2.1, hT.2.2.1, hT.2.2.2⟩ (by omega) (by omega) ⟨rfl, rfl⟩) rfl (by omega) hT.1 rfl rfl rfl rfl (by decide) (Nat.le_of_ble_eq_true rfl) rfl (fun mhM_2 hM_2 => ?_)
        subst hM_2
        refine w_iaddN (n := 20) O dX5_sum_19 rfl ?_
        refine w_istore_n (n := 21) (lv' := [(2, .int (nI ((c + (T.1 (i * 6 + w)))))), (0, .ref (gb_ad G (b))), (1, .int (nI (w))), (3, .int (nI (i)))]) O dX5_sum_20 rfl (by decide) rfl rfl ?_
        refine w_iincN (n := 24) (lv' := [(3, .int (nI (i + 1))), (2, .int (nI ((c + (T.1 (i * 6 + w)))))), (0, .ref (gb_ad G (b))), (1, .int (nI (w)))]) O dX5_sum_21 rfl (by decide) rfl rfl ?_
        refine w_goto (tgt := 4) O dX5_sum_24 (by decide) ?_
        refine w_lv (lv2 := [(0, .ref (gb_ad G (b))), (1, .int (nI (w))), (2, .int (nI ((c + (T.1 (i * 6 + w)))))), (3, .int (nI (i + 1)))]) [2, 3, 1, 0] rfl ?_
        exact ih_LA _ (by omega) (i + 1) ((c + (T.1 (i * 6 + w)))) rfl (by omega) (by simp only [sSum, hc])
  refine w_lv (lv2 := [(0, .ref (gb_ad G (b))), (1, .int (nI (w))), (2, .int (nI 0)), (3, .int (nI 0))]) [2, 3, 1, 0] rfl ?_
  exact LA _ 0 0 rfl (Nat.zero_le _) rfl
set_option maxRecDepth 100000 in
set_option maxHeartbeats 4000000 in
theorem f_X5_whoHas {G : gb_G} (hW : gW G) {Q : Option Value → gb_M → Prop} {mM : gb_M} {b : Nat} {T : Tw} (hT : isT G mM b T) (hb : b + 3 < gb_N G) (ok : okT T) {w : Nat} (hw : w < 6) (hbd : ∀ g, g < 4 → T.1 (g * 6 + w) < 2 ^ 31) (hQ : Q (some (.int (nI (sBits (fun g => decide (0 < T.1 (g * 6 + w))) T.2.2.2.1)))) mM) : Fn G 1 yX5_whoHas cX5_whoHas 4 (some .int) [.ref (gb_ad G (b)), .int (nI (w))] mM Q := by
  have hN := hW.2.2.1
  refine Fn.of hW.1 [(0, .ref (gb_ad G (b))), (1, .int (nI (w)))] (by decide) (Nat.le_of_ble_eq_true rfl) rfl ?_
  intro X O
  have hn4 := ok.1
  refine w_iconst (n := 1) O dX5_whoHas_0 (v := (nI 0)) (by decide) rfl ?_
  refine w_istore_n (n := 2) (lv' := [(2, .int (nI 0)), (0, .ref (gb_ad G (b))), (1, .int (nI (w)))]) O dX5_whoHas_1 rfl (by decide) rfl rfl ?_
  refine w_iconst (n := 3) O dX5_whoHas_2 (v := (nI 0)) (by decide) rfl ?_
  refine w_istore_n (n := 4) (lv' := [(3, .int (nI 0)), (2, .int (nI 0)), (0, .ref (gb_ad G (b))), (1, .int (nI (w)))]) O dX5_whoHas_3 rfl (by decide) rfl rfl ?_
  have LA : ∀ (k : Nat) (i c : Nat), T.2.2.2.1 - i = k → i ≤ T.2.2.2.1 → c = sBits (fun g => decide (0 < T.1 (g * 6 + w))) i → Wm G X 4 Q 4 [(0, .ref (gb_ad G (b))), (1, .int (nI (w))), (2, .int (nI (c))), (3, .int (nI (i)))] [] mM := by
    intro k
    induction k using Nat.strongRecOn with
    | ind k ih_LA =>
      intro i c hk hi hc
      have hcl : c < 2 ^ i := by rw [hc]; exact sBits_lt _ i
      refine w_iload_n (n := 5) O dX5_whoHas_4 rfl rfl rfl ?_
      refine w_aload_n (n := 6) O dX5_whoHas_5 rfl rfl rfl ?_
      refine w_getf (n := 9) O 3 dX5_whoHas_6 (by omega) hT.1 rfl (by decide) uX5 uf_X5_21 rfl rfl ?_
      refine w_icmp_geN (n := 12) (tgt := 33) O dX5_whoHas_9 (by omega) (by omega) (by decide) rfl (fun c_1 => ?_) (fun c_1 => ?_)
      · skip
        refine w_iload_n (n := 34) O dX5_whoHas_33 rfl rfl rfl ?_
        refine w_iret O dX5_whoHas_34 ?_
        rw [show T.2.2.2.1 = i by omega, ← hc] at hQ
        exact hQ
      · skip
        refine w_aload_n (n := 13) O dX5_whoHas_12 rfl rfl rfl ?_
        refine w_iload_n (n := 14) O dX5_whoHas_13 rfl rfl rfl ?_
        refine w_iload_n (n := 15) O dX5_whoHas_14 rfl rfl rfl ?_
        have hbw := hbd i (by omega)
        refine w_cV (n := 18) (ro := some (.int (nI (T.1 (i * 6 + w))))) (R := fun mM' => mM = mM') (st := []) (st1 := [.int (nI (T.1 (i * 6 + w)))]) (As := [.int (nI (i)), .int (nI (w))]) (b := b) O dX5_whoHas_15 ul_X5_46 um_X5_trait (f_X5_trait (T := T) hW ⟨hT.1, hT.2.1, hT.2.2.1, hT.2.2.2⟩ (by omega) (by omega) ⟨rfl, rfl⟩) rfl (by omega) hT.1 rfl rfl rfl rfl (by decide) (Nat.le_of_ble_eq_true rfl) rfl (fun mhM_2 hM_2 => ?_)
        subst hM_2
        refine w_if_leN (n := 21) (tgt := 27) O dX5_whoHas_18 (by omega) (by decide) rfl (fun c_3 => ?_) (fun c_3 => ?_)
        · skip
          refine w_iincN (n := 30) (lv' := [(3, .int (nI (i + 1))), (0, .ref (gb_ad G (b))), (1, .int (nI (w))), (2, .int (nI (c)))]) O dX5_whoHas_27 rfl (by decide) rfl rfl ?_
          refine w_goto (tgt := 4) O dX5_whoHas_30 (by decide) ?_
          refine w_lv (lv2 := [(0, .ref (gb_ad G (b))), (1, .int (nI (w))), (2, .int (nI (c))), (3, .int (nI (i + 1)))]) [1, 2, 3, 0] rfl ?_
          exact ih_LA _ (by omega) (i + 1) (c) rfl (by omega) (by simp [sBits, *])
        · skip
          refine w_iload_n (n := 22) O dX5_whoHas_21 rfl rfl rfl ?_
          refine w_iconst (n := 23) O dX5_whoHas_22 (v := (nI 1)) (by decide) rfl ?_
          refine w_iload_n (n := 24) O dX5_whoHas_23 rfl rfl rfl ?_
          refine w_ishl (n := 25) O dX5_whoHas_24 rfl ?_
          refine w_ior (n := 26) O dX5_whoHas_25 rfl ?_
          refine w_top (nI (c + 2 ^ i)) (nI_orbit hcl (by omega)) ?_
          refine w_istore_n (n := 27) (lv' := [(2, .int (nI (c + 2 ^ i))), (0, .ref (gb_ad G (b))), (1, .int (nI (w))), (3, .int (nI (i)))]) O dX5_whoHas_26 rfl (by decide) rfl rfl ?_
          refine w_iincN (n := 30) (lv' := [(3, .int (nI (i + 1))), (2, .int (nI (c + 2 ^ i))), (0, .ref (gb_ad G (b))), (1, .int (nI (w)))]) O dX5_whoHas_27 rfl (by decide) rfl rfl ?_
          refine w_goto (tgt := 4) O dX5_whoHas_30 (by decide) ?_
          refine w_lv (lv2 := [(0, .ref (gb_ad G (b))), (1, .int (nI (w))), (2, .int (nI (c + 2 ^ i))), (3, .int (nI (i + 1)))]) [2, 3, 1, 0] rfl ?_
          exact ih_LA _ (by omega) (i + 1) (c + 2 ^ i) rfl (by omega) (by simp [sBits, *])
  refine w_lv (lv2 := [(0, .ref (gb_ad G (b))), (1, .int (nI (w))), (2, .int (nI 0)), (3, .int (nI 0))]) [2, 3, 1, 0] rfl ?_
  exact LA _ 0 0 rfl (Nat.zero_le _) rfl
set_option maxRecDepth 100000 in
set_option maxHeartbeats 4000000 in
theorem f_X5_flaws {G : gb_G} (hW : gW G) {Q : Option Value → gb_M → Prop} {mM : gb_M} {b : Nat} {T : Tw} (hT : isT G mM b T) (hb : b + 3 < gb_N G) (ok : okT T) (hQ : Q (some (.int (nI (sBits (fun g => decide (tGives T g < tShare T g)) T.2.2.2.1)))) mM) : Fn G 4 yX5_flaws cX5_flaws 3 (some .int) [.ref (gb_ad G (b))] mM Q := by
  have hN := hW.2.2.1
  refine Fn.of hW.1 [(0, .ref (gb_ad G (b)))] (by decide) (Nat.le_of_ble_eq_true rfl) rfl ?_
  intro X O
  have hn4 := ok.1
  refine w_iconst (n := 1) O dX5_flaws_0 (v := (nI 0)) (by decide) rfl ?_
  refine w_istore_n (n := 2) (lv' := [(1, .int (nI 0)), (0, .ref (gb_ad G (b)))]) O dX5_flaws_1 rfl (by decide) rfl rfl ?_
  refine w_iconst (n := 3) O dX5_flaws_2 (v := (nI 0)) (by decide) rfl ?_
  refine w_istore_n (n := 4) (lv' := [(2, .int (nI 0)), (1, .int (nI 0)), (0, .ref (gb_ad G (b)))]) O dX5_flaws_3 rfl (by decide) rfl rfl ?_
  have LA : ∀ (k : Nat) (i c : Nat), T.2.2.2.1 - i = k → i ≤ T.2.2.2.1 → c = sBits (fun g => decide (tGives T g < tShare T g)) i → Wm G X 3 Q 4 [(0, .ref (gb_ad G (b))), (1, .int (nI (c))), (2, .int (nI (i)))] [] mM := by
    intro k
    induction k using Nat.strongRecOn with
    | ind k ih_LA =>
      intro i c hk hi hc
      have hcl : c < 2 ^ i := by rw [hc]; exact sBits_lt _ i
      refine w_iload_n (n := 5) O dX5_flaws_4 rfl rfl rfl ?_
      refine w_aload_n (n := 6) O dX5_flaws_5 rfl rfl rfl ?_
      refine w_getf (n := 9) O 3 dX5_flaws_6 (by omega) hT.1 rfl (by decide) uX5 uf_X5_21 rfl rfl ?_
      refine w_icmp_geN (n := 12) (tgt := 37) O dX5_flaws_9 (by omega) (by omega) (by decide) rfl (fun c_1 => ?_) (fun c_1 => ?_)
      · skip
        refine w_iload_n (n := 38) O dX5_flaws_37 rfl rfl rfl ?_
        refine w_iret O dX5_flaws_38 ?_
        rw [show T.2.2.2.1 = i by omega, ← hc] at hQ
        exact hQ
      · skip
        have hq1 := tGives_le ok (show i < 4 by omega)
        have hq2 := tShare_le ok (show i < 4 by omega)
        refine w_aload_n (n := 13) O dX5_flaws_12 rfl rfl rfl ?_
        refine w_iload_n (n := 14) O dX5_flaws_13 rfl rfl rfl ?_
        refine w_cV (n := 17) (ro := some (.int (nI (tGives T (i))))) (R := fun mM' => mM = mM') (st := []) (st1 := [.int (nI (tGives T (i)))]) (As := [.int (nI (i))]) (b := b) O dX5_flaws_14 ul_X5_66 um_X5_gives (f_X5_gives (T := T) hW ⟨hT.1, hT.2.1, hT.2.2.1, hT.2.2.2⟩ (by omega) ok (by omega) ⟨rfl, rfl⟩) rfl (by omega) hT.1 rfl rfl rfl rfl (by decide) (Nat.le_of_ble_eq_true rfl) rfl (fun mhM_2 hM_2 => ?_)
        subst hM_2
        refine w_aload_n (n := 18) O dX5_flaws_17 rfl rfl rfl ?_
        refine w_iload_n (n := 19) O dX5_flaws_18 rfl rfl rfl ?_
        refine w_cV (n := 22) (ro := some (.int (nI (tShare T (i))))) (R := fun mM' => mM = mM') (st := [.int (nI (tGives T (i)))]) (st1 := [.int (nI (tShare T (i))), .int (nI (tGives T (i)))]) (As := [.int (nI (i))]) (b := b) O dX5_flaws_19 ul_X5_58 um_X5_share (f_X5_share (T := T) hW ⟨hT.1, hT.2.1, hT.2.2.1, hT.2.2.2⟩ (by omega) ok (by omega) ⟨rfl, rfl⟩) rfl (by omega) hT.1 rfl rfl rfl rfl (by decide) (Nat.le_of_ble_eq_true rfl) rfl (fun mhM_3 hM_3 => ?_)
        subst hM_3
        refine w_icmp_geN (n := 25) (tgt := 31) O dX5_flaws_22 (by omega) (by omega) (by decide) rfl (fun c_4 => ?_) (fun c_4 => ?_)
        · skip
          refine w_iincN (n := 34) (lv' := [(2, .int (nI (i + 1))), (0, .ref (gb_ad G (b))), (1, .int (nI (c)))]) O dX5_flaws_31 rfl (by decide) rfl rfl ?_
          refine w_goto (tgt := 4) O dX5_flaws_34 (by decide) ?_
          refine w_lv (lv2 := [(0, .ref (gb_ad G (b))), (1, .int (nI (c))), (2, .int (nI (i + 1)))]) [1, 2, 0] rfl ?_
          exact ih_LA _ (by omega) (i + 1) (c) rfl (by omega) (by simp [sBits, *])
        · skip
          refine w_iload_n (n := 26) O dX5_flaws_25 rfl rfl rfl ?_
          refine w_iconst (n := 27) O dX5_flaws_26 (v := (nI 1)) (by decide) rfl ?_
          refine w_iload_n (n := 28) O dX5_flaws_27 rfl rfl rfl ?_
          refine w_ishl (n := 29) O dX5_flaws_28 rfl ?_
          refine w_ior (n := 30) O dX5_flaws_29 rfl ?_
          refine w_top (nI (c + 2 ^ i)) (nI_orbit hcl (by omega)) ?_
          refine w_istore_n (n := 31) (lv' := [(1, .int (nI (c + 2 ^ i))), (0, .ref (gb_ad G (b))), (2, .int (nI (i)))]) O dX5_flaws_30 rfl (by decide) rfl rfl ?_
          refine w_iincN (n := 34) (lv' := [(2, .int (nI (i + 1))), (1, .int (nI (c + 2 ^ i))), (0, .ref (gb_ad G (b)))]) O dX5_flaws_31 rfl (by decide) rfl rfl ?_
          refine w_goto (tgt := 4) O dX5_flaws_34 (by decide) ?_
          refine w_lv (lv2 := [(0, .ref (gb_ad G (b))), (1, .int (nI (c + 2 ^ i))), (2, .int (nI (i + 1)))]) [2, 1, 0] rfl ?_
          exact ih_LA _ (by omega) (i + 1) (c + 2 ^ i) rfl (by omega) (by simp [sBits, *])
  refine w_lv (lv2 := [(0, .ref (gb_ad G (b))), (1, .int (nI 0)), (2, .int (nI 0))]) [2, 1, 0] rfl ?_
  exact LA _ 0 0 rfl (Nat.zero_le _) rfl
set_option maxRecDepth 100000 in
set_option maxHeartbeats 4000000 in
theorem f_X5_holdsMost {G : gb_G} (hW : gW G) {Q : Option Value → gb_M → Prop} {mM : gb_M} {b : Nat} {T : Tw} (hT : isT G mM b T) (hb : b + 3 < gb_N G) (ok : okT T) (hQ : Q (some (.int (oI (sMost (fun g => T.1 (g * 6 + 5)) T.2.2.2.1).1))) mM) : Fn G 1 yX5_holdsMost cX5_holdsMost 4 (some .int) [.ref (gb_ad G (b))] mM Q := by
  have hN := hW.2.2.1
  refine Fn.of hW.1 [(0, .ref (gb_ad G (b)))] (by decide) (Nat.le_of_ble_eq_true rfl) rfl ?_
  intro X O
  have hn4 := ok.1
  refine w_bipush (n := 2) O dX5_holdsMost_0 (v := (-4)) (by decide) rfl ?_
  refine w_istore_n (n := 3) (lv' := [(1, .int (-4)), (0, .ref (gb_ad G (b)))]) O dX5_holdsMost_2 rfl (by decide) rfl rfl ?_
  refine w_iconst (n := 4) O dX5_holdsMost_3 (v := (nI 0)) (by decide) rfl ?_
  refine w_istore_n (n := 5) (lv' := [(2, .int (nI 0)), (1, .int (-4)), (0, .ref (gb_ad G (b)))]) O dX5_holdsMost_4 rfl (by decide) rfl rfl ?_
  refine w_iconst (n := 6) O dX5_holdsMost_5 (v := (nI 0)) (by decide) rfl ?_
  refine w_istore_n (n := 7) (lv' := [(3, .int (nI 0)), (2, .int (nI 0)), (1, .int (-4)), (0, .ref (gb_ad G (b)))]) O dX5_holdsMost_6 rfl (by decide) rfl rfl ?_
  have LA : ∀ (k : Nat) (i c : Nat) (o : Option Nat), T.2.2.2.1 - i = k → i ≤ T.2.2.2.1 → (o, c) = sMost (fun g => T.1 (g * 6 + 5)) i → Wm G X 4 Q 7 [(0, .ref (gb_ad G (b))), (1, .int (oI o)), (2, .int (nI (c))), (3, .int (nI (i)))] [] mM := by
    intro k
    induction k using Nat.strongRecOn with
    | ind k ih_LA =>
      intro i c o hk hi hc
      have hcl : c ≤ 9 := by rw [show c = (sMost (fun g => T.1 (g * 6 + 5)) i).2 by rw [← hc]]; exact sMost_le (fun k hk => (ok.2.1 k (by omega)).2.2.2.2.2)
      refine w_iload_n (n := 8) O dX5_holdsMost_7 rfl rfl rfl ?_
      refine w_aload_n (n := 9) O dX5_holdsMost_8 rfl rfl rfl ?_
      refine w_getf (n := 12) O 3 dX5_holdsMost_9 (by omega) hT.1 rfl (by decide) uX5 uf_X5_21 rfl rfl ?_
      refine w_icmp_geN (n := 15) (tgt := 40) O dX5_holdsMost_12 (by omega) (by omega) (by decide) rfl (fun c_1 => ?_) (fun c_1 => ?_)
      · skip
        refine w_iload_n (n := 41) O dX5_holdsMost_40 rfl rfl rfl ?_
        refine w_iret O dX5_holdsMost_41 ?_
        rw [show T.2.2.2.1 = i by omega, show (sMost (fun g => T.1 (g * 6 + 5)) i).1 = o by rw [← hc]] at hQ
        exact hQ
      · skip
        have hk1 := ok.2.1 i (by omega)
        refine w_aload_n (n := 16) O dX5_holdsMost_15 rfl rfl rfl ?_
        refine w_iload_n (n := 17) O dX5_holdsMost_16 rfl rfl rfl ?_
        refine w_iconst (n := 18) O dX5_holdsMost_17 (v := (nI 5)) (by decide) rfl ?_
        refine w_cV (n := 21) (ro := some (.int (nI (T.1 (i * 6 + 5))))) (R := fun mM' => mM = mM') (st := []) (st1 := [.int (nI (T.1 (i * 6 + 5)))]) (As := [.int (nI (i)), .int (nI 5)]) (b := b) O dX5_holdsMost_18 ul_X5_46 um_X5_trait (f_X5_trait (T := T) hW ⟨hT.1, hT.2.1, hT.2.2.1, hT.2.2.2⟩ (by omega) (by omega) ⟨rfl, rfl⟩) rfl (by omega) hT.1 rfl rfl rfl rfl (by decide) (Nat.le_of_ble_eq_true rfl) rfl (fun mhM_2 hM_2 => ?_)
        subst hM_2
        refine w_iload_n (n := 22) O dX5_holdsMost_21 rfl rfl rfl ?_
        refine w_icmp_leN (n := 25) (tgt := 34) O dX5_holdsMost_22 (by omega) (by omega) (by decide) rfl (fun c_3 => ?_) (fun c_3 => ?_)
        · skip
          refine w_iincN (n := 37) (lv' := [(3, .int (nI (i + 1))), (0, .ref (gb_ad G (b))), (1, .int (oI o)), (2, .int (nI (c)))]) O dX5_holdsMost_34 rfl (by decide) rfl rfl ?_
          refine w_goto (tgt := 7) O dX5_holdsMost_37 (by decide) ?_
          refine w_lv (lv2 := [(0, .ref (gb_ad G (b))), (1, .int (oI o)), (2, .int (nI (c))), (3, .int (nI (i + 1)))]) [1, 2, 3, 0] rfl ?_
          exact ih_LA _ (by omega) (i + 1) (c) o rfl (by omega) (by simp only [sMost]; rw [← hc]; first | rw [if_pos (show c < T.1 (i * 6 + 5) by omega)] | rw [if_neg (show ¬ c < T.1 (i * 6 + 5) by omega)])
        · skip
          refine w_aload_n (n := 26) O dX5_holdsMost_25 rfl rfl rfl ?_
          refine w_iload_n (n := 27) O dX5_holdsMost_26 rfl rfl rfl ?_
          refine w_iconst (n := 28) O dX5_holdsMost_27 (v := (nI 5)) (by decide) rfl ?_
          refine w_cV (n := 31) (ro := some (.int (nI (T.1 (i * 6 + 5))))) (R := fun mM' => mM = mM') (st := []) (st1 := [.int (nI (T.1 (i * 6 + 5)))]) (As := [.int (nI (i)), .int (nI 5)]) (b := b) O dX5_holdsMost_28 ul_X5_46 um_X5_trait (f_X5_trait (T := T) hW ⟨hT.1, hT.2.1, hT.2.2.1, hT.2.2.2⟩ (by omega) (by omega) ⟨rfl, rfl⟩) rfl (by omega) hT.1 rfl rfl rfl rfl (by decide) (Nat.le_of_ble_eq_true rfl) rfl (fun mhM_4 hM_4 => ?_)
          subst hM_4
          refine w_istore_n (n := 32) (lv' := [(2, .int (nI (T.1 (i * 6 + 5)))), (0, .ref (gb_ad G (b))), (1, .int (oI o)), (3, .int (nI (i)))]) O dX5_holdsMost_31 rfl (by decide) rfl rfl ?_
          refine w_iload_n (n := 33) O dX5_holdsMost_32 rfl rfl rfl ?_
          refine w_istore_n (n := 34) (lv' := [(1, .int (nI (i))), (2, .int (nI (T.1 (i * 6 + 5)))), (0, .ref (gb_ad G (b))), (3, .int (nI (i)))]) O dX5_holdsMost_33 rfl (by decide) rfl rfl ?_
          refine w_iincN (n := 37) (lv' := [(3, .int (nI (i + 1))), (1, .int (nI (i))), (2, .int (nI (T.1 (i * 6 + 5)))), (0, .ref (gb_ad G (b)))]) O dX5_holdsMost_34 rfl (by decide) rfl rfl ?_
          refine w_goto (tgt := 7) O dX5_holdsMost_37 (by decide) ?_
          refine w_lv (lv2 := [(0, .ref (gb_ad G (b))), (1, .int (nI (i))), (2, .int (nI (T.1 (i * 6 + 5)))), (3, .int (nI (i + 1)))]) [3, 1, 2, 0] rfl ?_
          exact ih_LA _ (by omega) (i + 1) (T.1 (i * 6 + 5)) (some i) rfl (by omega) (by simp only [sMost]; rw [← hc]; first | rw [if_pos (show c < T.1 (i * 6 + 5) by omega)] | rw [if_neg (show ¬ c < T.1 (i * 6 + 5) by omega)])
  refine w_lv (lv2 := [(0, .ref (gb_ad G (b))), (1, .int (-4)), (2, .int (nI 0)), (3, .int (nI 0))]) [3, 2, 1, 0] rfl ?_
  exact LA _ 0 0 none rfl (Nat.zero_le _) rfl
set_option maxRecDepth 100000 in
set_option maxHeartbeats 4000000 in
theorem f_J7_fill {G : gb_G} (hW : gW G) {Q : Option Value → gb_M → Prop} {mM : gb_M} {a z : Nat} {x : Int32} {r : Nat → Int32} (haN : a < gb_N G) (ha : mM a = IA G z r) (hz : z < 2 ^ 31) (hQ : Q none (va_up mM a (IA G z (fun _ => x)))) : Fn G 0 yJ7_fill_53178 cJ7_fill_53178 4 none [.ref (gb_ad G (a)), .int (x)] mM Q := by
  have hN := hW.2.2.1
  refine Fn.of hW.1 [(0, .ref (gb_ad G (a))), (1, .int (x))] (by decide) (Nat.le_of_ble_eq_true rfl) rfl ?_
  intro X O
  refine w_iconst (n := 1) O dJ7_fill_53178_0 (v := (nI 0)) (by decide) rfl ?_
  refine w_istore_n (n := 2) (lv' := [(2, .int (nI 0)), (0, .ref (gb_ad G (a))), (1, .int (x))]) O dJ7_fill_53178_1 rfl (by decide) rfl rfl ?_
  refine w_aload_n (n := 3) O dJ7_fill_53178_2 rfl rfl rfl ?_
  refine w_alen (n := 4) (v := nI z) O dJ7_fill_53178_3 (by omega) ha hW.2.1.1 rfl rfl ?_
  refine w_istore_n (n := 5) (lv' := [(3, .int (nI (z))), (2, .int (nI 0)), (0, .ref (gb_ad G (a))), (1, .int (x))]) O dJ7_fill_53178_4 rfl (by decide) rfl rfl ?_
  have LF : ∀ (k : Nat) (i : Nat) (m1 : gb_M) (r1 : Nat → Int32), z - i = k → i ≤ z → m1 a = IA G z r1 → (∀ k, k < i → r1 k = x) → (∀ k, k ≠ a → m1 k = mM k) → Wm G X 4 Q 5 [(0, .ref (gb_ad G (a))), (1, .int (x)), (2, .int (nI (i))), (3, .int (nI (z)))] [] m1 := by
    intro k
    induction k using Nat.strongRecOn with
    | ind k ih_LF =>
      intro i m1 r1 hk hi ha1 hr1 hs1
      refine w_iload_n (n := 6) O dJ7_fill_53178_5 rfl rfl rfl ?_
      refine w_iload_n (n := 7) O dJ7_fill_53178_6 rfl rfl rfl ?_
      refine w_icmp_geN (n := 10) (tgt := 20) O dJ7_fill_53178_7 (by omega) (by omega) (by decide) rfl (fun c_1 => ?_) (fun c_1 => ?_)
      · skip
        refine Wm.cells (fill_same ha1 (fun k hk => hr1 k (by omega)) hs1) ?_
        refine w_vret O dJ7_fill_53178_20 ?_
        exact hQ
      · skip
        refine w_aload_n (n := 11) O dJ7_fill_53178_10 rfl rfl rfl ?_
        refine w_iload_n (n := 12) O dJ7_fill_53178_11 rfl rfl rfl ?_
        refine w_iload_n (n := 13) O dJ7_fill_53178_12 rfl rfl rfl ?_
        refine w_iastA (n := 14) O dJ7_fill_53178_13 hW.2.1 (by omega) ha1 (by omega) (by omega) rfl ?_
        refine w_iincN (n := 17) (lv' := [(2, .int (nI (i + 1))), (0, .ref (gb_ad G (a))), (1, .int (x)), (3, .int (nI (z)))]) O dJ7_fill_53178_14 rfl (by decide) rfl rfl ?_
        refine w_goto (tgt := 5) O dJ7_fill_53178_17 (by decide) ?_
        refine w_lv (lv2 := [(0, .ref (gb_ad G (a))), (1, .int (x)), (2, .int (nI (i + 1))), (3, .int (nI (z)))]) [1, 2, 0, 3] rfl ?_
        exact ih_LF _ (by omega) (i + 1) _ _ rfl (by omega) (va_up_self _ _ _) (fun k hk => by unfold upd; split; rfl; exact hr1 k (by omega)) (fun k hk => (va_up_ne _ _ hk).trans (hs1 k hk))
  refine w_lv (lv2 := [(0, .ref (gb_ad G (a))), (1, .int (x)), (2, .int (nI 0)), (3, .int (nI (z)))]) [2, 3, 1, 0] rfl ?_
  exact LF _ 0 mM r rfl (Nat.zero_le _) ha (fun k hk => absurd hk (Nat.not_lt_zero k)) (fun _ _ => rfl)
set_option maxRecDepth 100000 in
set_option maxHeartbeats 4000000 in
theorem f_X5_clear {G : gb_G} (hW : gW G) {Q : Option Value → gb_M → Prop} {mM : gb_M} {b : Nat} {T : Tw} (hT : isT G mM b T) (hb : b + 3 < gb_N G)  (hQ : ∀ M', isT G M' b (fun _ => 0, fun _ => 0, fun _ => 0, 0, 6, 0, 0) → sm mM M' b (b + 3) → Q none M') : Fn G 1 yX5_clear cX5_clear 1 none [.ref (gb_ad G (b))] mM Q := by
  have hN := hW.2.2.1
  refine Fn.of hW.1 [(0, .ref (gb_ad G (b)))] (by decide) (Nat.le_of_ble_eq_true rfl) rfl ?_
  intro X O
  refine w_aload_n (n := 1) O dX5_clear_0 rfl rfl rfl ?_
  refine w_getf (n := 4) O 0 dX5_clear_1 (by omega) hT.1 rfl (by decide) uX5 uf_X5_9 rfl rfl ?_
  refine w_iconst (n := 5) O dX5_clear_4 (v := (nI 0)) (by decide) rfl ?_
  refine w_cS (n := 8) (ro := none) (R := fun mM' => (va_up mM (b + 1) (IN G 24 (fun _ => 0))) = mM') (st := []) (st1 := []) (As := [.ref (gb_ad G (b + 1)), .int (nI 0)]) O dX5_clear_5 ul_X5_34 um_J7_fill_53178 (f_J7_fill hW (by omega) hT.2.1 (by decide) ⟨rfl, rfl⟩) rfl rfl rfl (by decide) (Nat.le_of_ble_eq_true rfl) rfl (fun mhM_1 hM_1 => ?_)
  subst hM_1
  refine w_aload_n (n := 9) O dX5_clear_8 rfl rfl rfl ?_
  refine w_getf (n := 12) O 1 dX5_clear_9 (by omega) ((va_up_ne _ _ (by omega)).trans hT.1) rfl (by decide) uX5 uf_X5_15 rfl rfl ?_
  refine w_iconst (n := 13) O dX5_clear_12 (v := (nI 0)) (by decide) rfl ?_
  refine w_cS (n := 16) (ro := none) (R := fun mM' => (va_up (va_up mM (b + 1) (IN G 24 (fun _ => 0))) (b + 2) (IN G 3 (fun _ => 0))) = mM') (st := []) (st1 := []) (As := [.ref (gb_ad G (b + 2)), .int (nI 0)]) O dX5_clear_13 ul_X5_34 um_J7_fill_53178 (f_J7_fill hW (by omega) ((va_up_ne _ _ (by omega)).trans hT.2.2.1) (by decide) ⟨rfl, rfl⟩) rfl rfl rfl (by decide) (Nat.le_of_ble_eq_true rfl) rfl (fun mhM_2 hM_2 => ?_)
  subst hM_2
  refine w_aload_n (n := 17) O dX5_clear_16 rfl rfl rfl ?_
  refine w_getf (n := 20) O 2 dX5_clear_17 (by omega) ((va_up_ne _ _ (by omega)).trans ((va_up_ne _ _ (by omega)).trans hT.1)) rfl (by decide) uX5 uf_X5_18 rfl rfl ?_
  refine w_iconst (n := 21) O dX5_clear_20 (v := (nI 0)) (by decide) rfl ?_
  refine w_cS (n := 24) (ro := none) (R := fun mM' => (va_up (va_up (va_up mM (b + 1) (IN G 24 (fun _ => 0))) (b + 2) (IN G 3 (fun _ => 0))) (b + 3) (IN G 3 (fun _ => 0))) = mM') (st := []) (st1 := []) (As := [.ref (gb_ad G (b + 3)), .int (nI 0)]) O dX5_clear_21 ul_X5_34 um_J7_fill_53178 (f_J7_fill hW (by omega) ((va_up_ne _ _ (by omega)).trans ((va_up_ne _ _ (by omega)).trans hT.2.2.2)) (by decide) ⟨rfl, rfl⟩) rfl rfl rfl (by decide) (Nat.le_of_ble_eq_true rfl) rfl (fun mhM_3 hM_3 => ?_)
  subst hM_3
  refine w_aload_n (n := 25) O dX5_clear_24 rfl rfl rfl ?_
  refine w_iconst (n := 26) O dX5_clear_25 (v := (nI 0)) (by decide) rfl ?_
  refine w_putf (n := 29) (fs' := [.ref (gb_ad G (b + 1)), .ref (gb_ad G (b + 2)), .ref (gb_ad G (b + 3)), .int (nI 0), .int (nI (T.2.2.2.2.1)), .int (nI (T.2.2.2.2.2.1)), .int (nI (T.2.2.2.2.2.2))]) O 3 dX5_clear_26 (by omega) ((va_up_ne _ _ (by omega)).trans ((va_up_ne _ _ (by omega)).trans ((va_up_ne _ _ (by omega)).trans hT.1))) rfl (by decide) uX5 uf_X5_21 tyX5 tyX5_ok nmX5 rfl rfl rfl (Nat.le_of_ble_eq_true rfl) rfl rfl ?_
  refine w_aload_n (n := 30) O dX5_clear_29 rfl rfl rfl ?_
  refine w_bipush (n := 32) O dX5_clear_30 (v := (nI 6)) (by decide) rfl ?_
  refine w_putf (n := 35) (fs' := [.ref (gb_ad G (b + 1)), .ref (gb_ad G (b + 2)), .ref (gb_ad G (b + 3)), .int (nI 0), .int (nI 6), .int (nI (T.2.2.2.2.2.1)), .int (nI (T.2.2.2.2.2.2))]) O 4 dX5_clear_32 (by omega) (va_up_self _ _ _) rfl (by decide) uX5 uf_X5_25 tyX5 tyX5_ok nmX5 rfl rfl rfl (Nat.le_of_ble_eq_true rfl) rfl rfl ?_
  refine w_aload_n (n := 36) O dX5_clear_35 rfl rfl rfl ?_
  refine w_iconst (n := 37) O dX5_clear_36 (v := (nI 0)) (by decide) rfl ?_
  refine w_putf (n := 40) (fs' := [.ref (gb_ad G (b + 1)), .ref (gb_ad G (b + 2)), .ref (gb_ad G (b + 3)), .int (nI 0), .int (nI 6), .int (nI 0), .int (nI (T.2.2.2.2.2.2))]) O 5 dX5_clear_37 (by omega) (va_up_self _ _ _) rfl (by decide) uX5 uf_X5_28 tyX5 tyX5_ok nmX5 rfl rfl rfl (Nat.le_of_ble_eq_true rfl) rfl rfl ?_
  refine w_aload_n (n := 41) O dX5_clear_40 rfl rfl rfl ?_
  refine w_iconst (n := 42) O dX5_clear_41 (v := (nI 0)) (by decide) rfl ?_
  refine w_putf (n := 45) (fs' := [.ref (gb_ad G (b + 1)), .ref (gb_ad G (b + 2)), .ref (gb_ad G (b + 3)), .int (nI 0), .int (nI 6), .int (nI 0), .int (nI 0)]) O 6 dX5_clear_42 (by omega) (va_up_self _ _ _) rfl (by decide) uX5 uf_X5_31 tyX5 tyX5_ok nmX5 rfl rfl rfl (Nat.le_of_ble_eq_true rfl) rfl rfl ?_
  refine w_vret O dX5_clear_45 ?_
  exact hQ _ ⟨(va_up_self _ _ _), ((va_up_ne _ _ (by omega)).trans ((va_up_ne _ _ (by omega)).trans ((va_up_ne _ _ (by omega)).trans ((va_up_ne _ _ (by omega)).trans ((va_up_ne _ _ (by omega)).trans ((va_up_ne _ _ (by omega)).trans (va_up_self _ _ _))))))), ((va_up_ne _ _ (by omega)).trans ((va_up_ne _ _ (by omega)).trans ((va_up_ne _ _ (by omega)).trans ((va_up_ne _ _ (by omega)).trans ((va_up_ne _ _ (by omega)).trans (va_up_self _ _ _)))))), ((va_up_ne _ _ (by omega)).trans ((va_up_ne _ _ (by omega)).trans ((va_up_ne _ _ (by omega)).trans ((va_up_ne _ _ (by omega)).trans (va_up_self _ _ _)))))⟩ (((((((sm.rf.up (by omega) (by omega)).up (by omega) (by omega)).up (by omega) (by omega)).up (by omega) (by omega)).up (by omega) (by omega)).up (by omega) (by omega)).up (by omega) (by omega))
set_option maxRecDepth 100000 in
set_option maxHeartbeats 4000000 in
theorem f_X5_becomes {G : gb_G} (hW : gW G) {Q : Option Value → gb_M → Prop} {mM : gb_M} {b : Nat} {T : Tw} (hT : isT G mM b T) (hb : b + 3 < gb_N G) {c : Nat} {U : Tw} (hU : isT G mM c U) (hcN : c + 3 < gb_N G) (hbc : b + 3 < c ∨ c + 3 < b) (hQ : ∀ M', isT G M' b U → sm mM M' b (b + 3) → Q none M') : Fn G 1 yX5_becomes cX5_becomes 2 none [.ref (gb_ad G (b)), .ref (gb_ad G (c))] mM Q := by
  have hN := hW.2.2.1
  refine Fn.of hW.1 [(0, .ref (gb_ad G (b))), (1, .ref (gb_ad G (c)))] (by decide) (Nat.le_of_ble_eq_true rfl) rfl ?_
  intro X O
  refine w_aload_n (n := 1) O dX5_becomes_0 rfl rfl rfl ?_
  refine w_getf (n := 4) O 0 dX5_becomes_1 (by omega) hU.1 rfl (by decide) uX5 uf_X5_9 rfl rfl ?_
  refine w_iconst (n := 5) O dX5_becomes_4 (v := (nI 0)) (by decide) rfl ?_
  refine w_aload_n (n := 6) O dX5_becomes_5 rfl rfl rfl ?_
  refine w_getf (n := 9) O 0 dX5_becomes_6 (by omega) hT.1 rfl (by decide) uX5 uf_X5_9 rfl rfl ?_
  refine w_iconst (n := 10) O dX5_becomes_9 (v := (nI 0)) (by decide) rfl ?_
  refine w_aload_n (n := 11) O dX5_becomes_10 rfl rfl rfl ?_
  refine w_getf (n := 14) O 0 dX5_becomes_11 (by omega) hT.1 rfl (by decide) uX5 uf_X5_9 rfl rfl ?_
  refine w_alen (n := 15) (v := nI 24) O dX5_becomes_14 (by omega) hT.2.1 hW.2.1.1 rfl rfl ?_
  refine w_copyi (n := 18) (cA := gI G) O dX5_becomes_15 ul_X5_40 ux_native_arraycopy ux_static_arraycopy ui_java_lang_System (by omega) (Nat.le_of_ble_eq_true rfl) (by omega) (by omega) hU.2.1 hT.2.1 hW.2.1.1 (by decide) (by decide) (by decide) (by decide) (by decide) rfl ?_
  refine Wm.cell (fun k => nI (U.1 k)) (fun j hj => cpy_all (by decide) hj) ?_
  refine w_aload_n (n := 19) O dX5_becomes_18 rfl rfl rfl ?_
  refine w_getf (n := 22) O 1 dX5_becomes_19 (by omega) ((va_up_ne _ _ (by omega)).trans hU.1) rfl (by decide) uX5 uf_X5_15 rfl rfl ?_
  refine w_iconst (n := 23) O dX5_becomes_22 (v := (nI 0)) (by decide) rfl ?_
  refine w_aload_n (n := 24) O dX5_becomes_23 rfl rfl rfl ?_
  refine w_getf (n := 27) O 1 dX5_becomes_24 (by omega) ((va_up_ne _ _ (by omega)).trans hT.1) rfl (by decide) uX5 uf_X5_15 rfl rfl ?_
  refine w_iconst (n := 28) O dX5_becomes_27 (v := (nI 0)) (by decide) rfl ?_
  refine w_aload_n (n := 29) O dX5_becomes_28 rfl rfl rfl ?_
  refine w_getf (n := 32) O 1 dX5_becomes_29 (by omega) ((va_up_ne _ _ (by omega)).trans hT.1) rfl (by decide) uX5 uf_X5_15 rfl rfl ?_
  refine w_alen (n := 33) (v := nI 3) O dX5_becomes_32 (by omega) ((va_up_ne _ _ (by omega)).trans hT.2.2.1) hW.2.1.1 rfl rfl ?_
  refine w_copyi (n := 36) (cA := gI G) O dX5_becomes_33 ul_X5_40 ux_native_arraycopy ux_static_arraycopy ui_java_lang_System (by omega) (Nat.le_of_ble_eq_true rfl) (by omega) (by omega) ((va_up_ne _ _ (by omega)).trans hU.2.2.1) ((va_up_ne _ _ (by omega)).trans hT.2.2.1) hW.2.1.1 (by decide) (by decide) (by decide) (by decide) (by decide) rfl ?_
  refine Wm.cell (fun k => nI (U.2.1 k)) (fun j hj => cpy_all (by decide) hj) ?_
  refine w_aload_n (n := 37) O dX5_becomes_36 rfl rfl rfl ?_
  refine w_getf (n := 40) O 2 dX5_becomes_37 (by omega) ((va_up_ne _ _ (by omega)).trans ((va_up_ne _ _ (by omega)).trans hU.1)) rfl (by decide) uX5 uf_X5_18 rfl rfl ?_
  refine w_iconst (n := 41) O dX5_becomes_40 (v := (nI 0)) (by decide) rfl ?_
  refine w_aload_n (n := 42) O dX5_becomes_41 rfl rfl rfl ?_
  refine w_getf (n := 45) O 2 dX5_becomes_42 (by omega) ((va_up_ne _ _ (by omega)).trans ((va_up_ne _ _ (by omega)).trans hT.1)) rfl (by decide) uX5 uf_X5_18 rfl rfl ?_
  refine w_iconst (n := 46) O dX5_becomes_45 (v := (nI 0)) (by decide) rfl ?_
  refine w_aload_n (n := 47) O dX5_becomes_46 rfl rfl rfl ?_
  refine w_getf (n := 50) O 2 dX5_becomes_47 (by omega) ((va_up_ne _ _ (by omega)).trans ((va_up_ne _ _ (by omega)).trans hT.1)) rfl (by decide) uX5 uf_X5_18 rfl rfl ?_
  refine w_alen (n := 51) (v := nI 3) O dX5_becomes_50 (by omega) ((va_up_ne _ _ (by omega)).trans ((va_up_ne _ _ (by omega)).trans hT.2.2.2)) hW.2.1.1 rfl rfl ?_
  refine w_copyi (n := 54) (cA := gI G) O dX5_becomes_51 ul_X5_40 ux_native_arraycopy ux_static_arraycopy ui_java_lang_System (by omega) (Nat.le_of_ble_eq_true rfl) (by omega) (by omega) ((va_up_ne _ _ (by omega)).trans ((va_up_ne _ _ (by omega)).trans hU.2.2.2)) ((va_up_ne _ _ (by omega)).trans ((va_up_ne _ _ (by omega)).trans hT.2.2.2)) hW.2.1.1 (by decide) (by decide) (by decide) (by decide) (by decide) rfl ?_
  refine Wm.cell (fun k => nI (U.2.2.1 k)) (fun j hj => cpy_all (by decide) hj) ?_
  refine w_aload_n (n := 55) O dX5_becomes_54 rfl rfl rfl ?_
  refine w_aload_n (n := 56) O dX5_becomes_55 rfl rfl rfl ?_
  refine w_getf (n := 59) O 3 dX5_becomes_56 (by omega) ((va_up_ne _ _ (by omega)).trans ((va_up_ne _ _ (by omega)).trans ((va_up_ne _ _ (by omega)).trans hU.1))) rfl (by decide) uX5 uf_X5_21 rfl rfl ?_
  refine w_putf (n := 62) (fs' := [.ref (gb_ad G (b + 1)), .ref (gb_ad G (b + 2)), .ref (gb_ad G (b + 3)), .int (nI (U.2.2.2.1)), .int (nI (T.2.2.2.2.1)), .int (nI (T.2.2.2.2.2.1)), .int (nI (T.2.2.2.2.2.2))]) O 3 dX5_becomes_59 (by omega) ((va_up_ne _ _ (by omega)).trans ((va_up_ne _ _ (by omega)).trans ((va_up_ne _ _ (by omega)).trans hT.1))) rfl (by decide) uX5 uf_X5_21 tyX5 tyX5_ok nmX5 rfl rfl rfl (Nat.le_of_ble_eq_true rfl) rfl rfl ?_
  refine w_aload_n (n := 63) O dX5_becomes_62 rfl rfl rfl ?_
  refine w_aload_n (n := 64) O dX5_becomes_63 rfl rfl rfl ?_
  refine w_getf (n := 67) O 4 dX5_becomes_64 (by omega) ((va_up_ne _ _ (by omega)).trans ((va_up_ne _ _ (by omega)).trans ((va_up_ne _ _ (by omega)).trans ((va_up_ne _ _ (by omega)).trans hU.1)))) rfl (by decide) uX5 uf_X5_25 rfl rfl ?_
  refine w_putf (n := 70) (fs' := [.ref (gb_ad G (b + 1)), .ref (gb_ad G (b + 2)), .ref (gb_ad G (b + 3)), .int (nI (U.2.2.2.1)), .int (nI (U.2.2.2.2.1)), .int (nI (T.2.2.2.2.2.1)), .int (nI (T.2.2.2.2.2.2))]) O 4 dX5_becomes_67 (by omega) (va_up_self _ _ _) rfl (by decide) uX5 uf_X5_25 tyX5 tyX5_ok nmX5 rfl rfl rfl (Nat.le_of_ble_eq_true rfl) rfl rfl ?_
  refine w_aload_n (n := 71) O dX5_becomes_70 rfl rfl rfl ?_
  refine w_aload_n (n := 72) O dX5_becomes_71 rfl rfl rfl ?_
  refine w_getf (n := 75) O 5 dX5_becomes_72 (by omega) ((va_up_ne _ _ (by omega)).trans ((va_up_ne _ _ (by omega)).trans ((va_up_ne _ _ (by omega)).trans ((va_up_ne _ _ (by omega)).trans ((va_up_ne _ _ (by omega)).trans hU.1))))) rfl (by decide) uX5 uf_X5_28 rfl rfl ?_
  refine w_putf (n := 78) (fs' := [.ref (gb_ad G (b + 1)), .ref (gb_ad G (b + 2)), .ref (gb_ad G (b + 3)), .int (nI (U.2.2.2.1)), .int (nI (U.2.2.2.2.1)), .int (nI (U.2.2.2.2.2.1)), .int (nI (T.2.2.2.2.2.2))]) O 5 dX5_becomes_75 (by omega) (va_up_self _ _ _) rfl (by decide) uX5 uf_X5_28 tyX5 tyX5_ok nmX5 rfl rfl rfl (Nat.le_of_ble_eq_true rfl) rfl rfl ?_
  refine w_aload_n (n := 79) O dX5_becomes_78 rfl rfl rfl ?_
  refine w_aload_n (n := 80) O dX5_becomes_79 rfl rfl rfl ?_
  refine w_getf (n := 83) O 6 dX5_becomes_80 (by omega) ((va_up_ne _ _ (by omega)).trans ((va_up_ne _ _ (by omega)).trans ((va_up_ne _ _ (by omega)).trans ((va_up_ne _ _ (by omega)).trans ((va_up_ne _ _ (by omega)).trans ((va_up_ne _ _ (by omega)).trans hU.1)))))) rfl (by decide) uX5 uf_X5_31 rfl rfl ?_
  refine w_putf (n := 86) (fs' := [.ref (gb_ad G (b + 1)), .ref (gb_ad G (b + 2)), .ref (gb_ad G (b + 3)), .int (nI (U.2.2.2.1)), .int (nI (U.2.2.2.2.1)), .int (nI (U.2.2.2.2.2.1)), .int (nI (U.2.2.2.2.2.2))]) O 6 dX5_becomes_83 (by omega) (va_up_self _ _ _) rfl (by decide) uX5 uf_X5_31 tyX5 tyX5_ok nmX5 rfl rfl rfl (Nat.le_of_ble_eq_true rfl) rfl rfl ?_
  refine w_vret O dX5_becomes_86 ?_
  exact hQ _ ⟨(va_up_self _ _ _), ((va_up_ne _ _ (by omega)).trans ((va_up_ne _ _ (by omega)).trans ((va_up_ne _ _ (by omega)).trans ((va_up_ne _ _ (by omega)).trans ((va_up_ne _ _ (by omega)).trans ((va_up_ne _ _ (by omega)).trans (va_up_self _ _ _))))))), ((va_up_ne _ _ (by omega)).trans ((va_up_ne _ _ (by omega)).trans ((va_up_ne _ _ (by omega)).trans ((va_up_ne _ _ (by omega)).trans ((va_up_ne _ _ (by omega)).trans (va_up_self _ _ _)))))), ((va_up_ne _ _ (by omega)).trans ((va_up_ne _ _ (by omega)).trans ((va_up_ne _ _ (by omega)).trans ((va_up_ne _ _ (by omega)).trans (va_up_self _ _ _)))))⟩ (((((((sm.rf.up (by omega) (by omega)).up (by omega) (by omega)).up (by omega) (by omega)).up (by omega) (by omega)).up (by omega) (by omega)).up (by omega) (by omega)).up (by omega) (by omega))
