set_option maxRecDepth 100000 in
set_option maxHeartbeats 4000000 in
theorem f_X6_within {G : gb_G} (hW : gW G) {Q : Option Value → gb_M → Prop} {mM : gb_M} {v lo hi : Int32} (hQ : Q (some (.int (bI (wIn v lo hi)))) mM) : Fn G 0 yX6_within cX6_within 3 (some .boolean) [.int (v), .int (lo), .int (hi)] mM Q := by
  have hN := hW.2.2.1
  refine Fn.of hW.1 [(0, .int (v)), (1, .int (lo)), (2, .int (hi))] (by decide) (Nat.le_of_ble_eq_true rfl) rfl ?_
  intro X O
  refine w_iload_n (n := 1) O dX6_within_0 rfl rfl rfl ?_
  refine w_iload_n (n := 2) O dX6_within_1 rfl rfl rfl ?_
  refine w_icmp_lt (n := 5) (tgt := 14) O dX6_within_2 (by decide) rfl (fun c_1 => ?_) (fun c_1 => ?_)
  · skip
    refine w_iconst (n := 15) O dX6_within_14 (v := (nI 0)) (by decide) rfl ?_
    refine w_zret O dX6_within_15 (by decide) ?_
    have e : wIn v lo hi = false := by unfold wIn; simp only [Bool.and_eq_true, Bool.and_eq_false_iff, decide_eq_true_eq, decide_eq_false_iff_not, Int32.not_le]; first | exact ⟨Int32.not_lt.mp c_1, Int32.not_lt.mp None⟩ | exact Or.inl c_1 | exact Or.inr None
    rw [e] at hQ
    exact hQ
  · skip
    refine w_iload_n (n := 6) O dX6_within_5 rfl rfl rfl ?_
    refine w_iload_n (n := 7) O dX6_within_6 rfl rfl rfl ?_
    refine w_icmp_gt (n := 10) (tgt := 14) O dX6_within_7 (by decide) rfl (fun c_2 => ?_) (fun c_2 => ?_)
    · skip
      refine w_iconst (n := 15) O dX6_within_14 (v := (nI 0)) (by decide) rfl ?_
      refine w_zret O dX6_within_15 (by decide) ?_
      have e : wIn v lo hi = false := by unfold wIn; simp only [Bool.and_eq_true, Bool.and_eq_false_iff, decide_eq_true_eq, decide_eq_false_iff_not, Int32.not_le]; first | exact ⟨Int32.not_lt.mp c_1, Int32.not_lt.mp c_2⟩ | exact Or.inl c_1 | exact Or.inr c_2
      rw [e] at hQ
      exact hQ
    · skip
      refine w_iconst (n := 11) O dX6_within_10 (v := (nI 1)) (by decide) rfl ?_
      refine w_goto (tgt := 15) O dX6_within_11 (by decide) ?_
      refine w_zret O dX6_within_15 (by decide) ?_
      have e : wIn v lo hi = true := by unfold wIn; simp only [Bool.and_eq_true, Bool.and_eq_false_iff, decide_eq_true_eq, decide_eq_false_iff_not, Int32.not_le]; first | exact ⟨Int32.not_lt.mp c_1, Int32.not_lt.mp c_2⟩ | exact Or.inl c_1 | exact Or.inr c_2
      rw [e] at hQ
      exact hQ
set_option maxRecDepth 100000 in
set_option maxHeartbeats 4000000 in
theorem f_X6_has {G : gb_G} (hW : gW G) {Q : Option Value → gb_M → Prop} {mM : gb_M} {a p : Nat} (ha : a < 2 ^ 31) (hp : p < 31) (hQ : Q (some (.int (bI (hasB a p)))) mM) : Fn G 0 yX6_has cX6_has 2 (some .boolean) [.int (nI (a)), .int (nI (p))] mM Q := by
  have hN := hW.2.2.1
  refine Fn.of hW.1 [(0, .int (nI (a))), (1, .int (nI (p)))] (by decide) (Nat.le_of_ble_eq_true rfl) rfl ?_
  intro X O
  refine w_iload_n (n := 1) O dX6_has_0 rfl rfl rfl ?_
  refine w_iload_n (n := 2) O dX6_has_1 rfl rfl rfl ?_
  refine w_ishr (n := 3) O dX6_has_2 rfl ?_
  refine w_top (nI (a / 2 ^ p)) (nI_shr (by omega) (by omega)) ?_
  refine w_iconst (n := 4) O dX6_has_3 (v := (nI 1)) (by decide) rfl ?_
  refine w_iand (n := 5) O dX6_has_4 rfl ?_
  refine w_top (nI (a / 2 ^ p % 2)) (nI_and1 (by have := Nat.div_le_self a (2 ^ p); omega)) ?_
  refine w_iconst (n := 6) O dX6_has_5 (v := (nI 1)) (by decide) rfl ?_
  refine w_icmp_neN (n := 9) (tgt := 13) O dX6_has_6 (by omega) (by omega) (by decide) rfl (fun c_1 => ?_) (fun c_1 => ?_)
  · skip
    refine w_iconst (n := 14) O dX6_has_13 (v := (nI 0)) (by decide) rfl ?_
    refine w_zret O dX6_has_14 (by decide) ?_
    have e : hasB a p = false := by unfold hasB; simp [*]
    rw [e] at hQ
    exact hQ
  · skip
    refine w_iconst (n := 10) O dX6_has_9 (v := (nI 1)) (by decide) rfl ?_
    refine w_goto (tgt := 14) O dX6_has_10 (by decide) ?_
    refine w_zret O dX6_has_14 (by decide) ?_
    have e : hasB a p = true := by unfold hasB; simp [*]
    rw [e] at hQ
    exact hQ
set_option maxRecDepth 100000 in
set_option maxHeartbeats 4000000 in
theorem f_X6_isGiver {G : gb_G} (hW : gW G) {Q : Option Value → gb_M → Prop} {mM : gb_M} {tn : Nat} (hB : isB G mM tn) {T : Tw} (hT : isT G mM 1 T) (ok : okT T) {g : Int32} (hQ : Q (some (.int (bI (isGv g T.2.2.2.1)))) mM) : Fn G 1 yX6_isGiver cX6_isGiver 2 (some .boolean) [.ref (gb_ad G 0), .int (g)] mM Q := by
  have hN := hW.2.2.1
  refine Fn.of hW.1 [(0, .ref (gb_ad G 0)), (1, .int (g))] (by decide) (Nat.le_of_ble_eq_true rfl) rfl ?_
  intro X O
  refine w_iload_n (n := 1) O dX6_isGiver_0 rfl rfl rfl ?_
  refine w_iconst (n := 2) O dX6_isGiver_1 (v := (nI 0)) (by decide) rfl ?_
  refine w_aload_n (n := 3) O dX6_isGiver_2 rfl rfl rfl ?_
  refine w_getf (n := 6) O 0 dX6_isGiver_3 (by omega) hB rfl (by decide) uX6 uf_X6_10 rfl rfl ?_
  refine w_getf (n := 9) O 3 dX6_isGiver_6 (by omega) hT.1 rfl (by decide) uX5 uf_X6_94 rfl rfl ?_
  refine w_iconst (n := 10) O dX6_isGiver_9 (v := (nI 1)) (by decide) rfl ?_
  refine w_isub (n := 11) O dX6_isGiver_10 rfl ?_
  refine w_cS (n := 14) (ro := some (.int (bI (wIn (g) (nI (0)) (((nI (T.2.2.2.1)) - (nI (1)))))))) (R := fun mM' => mM = mM') (st := []) (st1 := [.int (bI (wIn (g) (nI (0)) (((nI (T.2.2.2.1)) - (nI (1))))))]) (As := [.int (g), .int (nI 0), .int (((nI (T.2.2.2.1)) - (nI (1))))]) O dX6_isGiver_11 ul_X6_66 um_X6_within (f_X6_within hW ⟨rfl, rfl⟩) rfl rfl rfl (by decide) (Nat.le_of_ble_eq_true rfl) rfl (fun mhM_1 hM_1 => ?_)
  subst hM_1
  refine w_zret O dX6_isGiver_14 (bI_nar _) ?_
  exact hQ
set_option maxRecDepth 100000 in
set_option maxHeartbeats 4000000 in
theorem f_X6_isSheet {G : gb_G} (hW : gW G) {Q : Option Value → gb_M → Prop} {mM : gb_M} {k : Int32} (hQ : Q (some (.int (bI (wIn k (nI 0) (nI 3))))) mM) : Fn G 1 yX6_isSheet cX6_isSheet 1 (some .boolean) [.int (k)] mM Q := by
  have hN := hW.2.2.1
  refine Fn.of hW.1 [(0, .int (k))] (by decide) (Nat.le_of_ble_eq_true rfl) rfl ?_
  intro X O
  refine w_iload_n (n := 1) O dX6_isSheet_0 rfl rfl rfl ?_
  refine w_iconst (n := 2) O dX6_isSheet_1 (v := (nI 0)) (by decide) rfl ?_
  refine w_iconst (n := 3) O dX6_isSheet_2 (v := (nI 3)) (by decide) rfl ?_
  refine w_cS (n := 6) (ro := some (.int (bI (wIn (k) (nI (0)) (nI (3)))))) (R := fun mM' => mM = mM') (st := []) (st1 := [.int (bI (wIn (k) (nI (0)) (nI (3))))]) (As := [.int (k), .int (nI 0), .int (nI 3)]) O dX6_isSheet_3 ul_X6_66 um_X6_within (f_X6_within hW ⟨rfl, rfl⟩) rfl rfl rfl (by decide) (Nat.le_of_ble_eq_true rfl) rfl (fun mhM_1 hM_1 => ?_)
  subst hM_1
  refine w_zret O dX6_isSheet_6 (bI_nar _) ?_
  exact hQ
set_option maxRecDepth 100000 in
set_option maxHeartbeats 4000000 in
theorem f_X6_tapFactor {G : gb_G} (hW : gW G) {Q : Option Value → gb_M → Prop} {mM : gb_M} {i g : Nat} (hi : i < 100) (hg : g < 100) (hQ : Q (some (.int (nI (1 + (i + g) % 3)))) mM) : Fn G 0 yX6_tapFactor cX6_tapFactor 2 (some .int) [.int (nI (i)), .int (nI (g))] mM Q := by
  have hN := hW.2.2.1
  refine Fn.of hW.1 [(0, .int (nI (i))), (1, .int (nI (g)))] (by decide) (Nat.le_of_ble_eq_true rfl) rfl ?_
  intro X O
  refine w_iconst (n := 1) O dX6_tapFactor_0 (v := (nI 1)) (by decide) rfl ?_
  refine w_iload_n (n := 2) O dX6_tapFactor_1 rfl rfl rfl ?_
  refine w_iload_n (n := 3) O dX6_tapFactor_2 rfl rfl rfl ?_
  refine w_iaddN (n := 4) O dX6_tapFactor_3 rfl ?_
  refine w_iconst (n := 5) O dX6_tapFactor_4 (v := (nI 3)) (by decide) rfl ?_
  refine w_iremN (n := 6) O dX6_tapFactor_5 (by omega) (by omega) (by omega) rfl ?_
  refine w_iaddN (n := 7) O dX6_tapFactor_6 rfl ?_
  refine w_iret O dX6_tapFactor_7 ?_
  exact hQ
set_option maxRecDepth 100000 in
set_option maxHeartbeats 4000000 in
theorem f_X6_cast {G : gb_G} (hW : gW G) {Q : Option Value → gb_M → Prop} {mM : gb_M} {tn : Nat} (hB : isB G mM tn) {b : Nat} {T : Tw} (hT : isT G mM b T) (hb : b + 3 < gb_N G) (ok : okT T) (hbm : (1 ≤ b ∧ b + 3 < 9) ∨ 11 < b) {pa am : Nat → Nat} {w : Nat} (hM : isM G mM pa am w) (hp : okP pa)  (hQ : ∀ M' pa', isM G M' pa' (bAm T) (bWt T) → (∀ g, g < T.2.2.2.1 → pa' g = tGives T g) → okP pa' → sm mM M' 9 11 → Q none M') : Fn G 5 yX6_cast cX6_cast 2 none [.ref (gb_ad G 0), .ref (gb_ad G (b))] mM Q := by
  have hN := hW.2.2.1
  refine Fn.of hW.1 [(0, .ref (gb_ad G 0)), (1, .ref (gb_ad G (b)))] (by decide) (Nat.le_of_ble_eq_true rfl) rfl ?_
  intro X O
  refine w_aload_n (n := 1) O dX6_cast_0 rfl rfl rfl ?_
  refine w_getf (n := 4) O 2 dX6_cast_1 (by omega) hB rfl (by decide) uX6 uf_X6_22 rfl rfl ?_
  refine w_aload_n (n := 5) O dX6_cast_4 rfl rfl rfl ?_
  refine w_cV (n := 8) (ro := none) (R := fun mM' => isM G mM' (fun k => if k < T.2.2.2.1 then tGives T k else pa k) (am) (w) ∧ sm mM mM' 9 11) (st := []) (st1 := []) (As := [.ref (gb_ad G (b))]) (b := 9) O dX6_cast_5 ul_X6_169 um_X1_gather (f_X1_gather (T := T) hW ⟨hT.1, hT.2.1, hT.2.2.1, hT.2.2.2⟩ (by omega) ok (by omega) ⟨hM.1, hM.2.1, hM.2.2⟩ (fun M' h1 h2 => ⟨rfl, h1, h2⟩)) rfl (by omega) hM.1 rfl rfl rfl rfl (by decide) (Nat.le_of_ble_eq_true rfl) rfl (fun mhM_1 hM_1 => ?_)
  obtain ⟨hMhM_1, hshM_1⟩ := hM_1
  refine w_aload_n (n := 9) O dX6_cast_8 rfl rfl rfl ?_
  refine w_getf (n := 12) O 2 dX6_cast_9 (by omega) ((hshM_1 (0) (by omega)).trans hB) rfl (by decide) uX6 uf_X6_22 rfl rfl ?_
  refine w_aload_n (n := 13) O dX6_cast_12 rfl rfl rfl ?_
  refine w_cV (n := 16) (ro := none) (R := fun mM' => isM G mM' (fun k => if k < T.2.2.2.1 then tGives T k else pa k) (mAm T (fun k => if k < T.2.2.2.1 then tGives T k else pa k)) (mWt T (fun k => if k < T.2.2.2.1 then tGives T k else pa k)) ∧ sm mhM_1 mM' 9 11) (st := []) (st1 := []) (As := [.ref (gb_ad G (b))]) (b := 9) O dX6_cast_13 ul_X6_172 um_X1_pour (f_X1_pour (T := T) hW ⟨((hshM_1 (b) (by omega)).trans hT.1), ((hshM_1 (b + 1) (by omega)).trans hT.2.1), ((hshM_1 (b + 2) (by omega)).trans hT.2.2.1), ((hshM_1 (b + 3) (by omega)).trans hT.2.2.2)⟩ (by omega) ok (by omega) ⟨hMhM_1.1, hMhM_1.2.1, hMhM_1.2.2⟩ (okP_gp ok hp) (fun M' h1 h2 => ⟨rfl, h1, h2⟩)) rfl (by omega) hMhM_1.1 rfl rfl rfl rfl (by decide) (Nat.le_of_ble_eq_true rfl) rfl (fun mhM_2 hM_2 => ?_)
  obtain ⟨hMhM_2, hshM_2⟩ := hM_2
  refine w_vret O dX6_cast_16 ?_
  have e1 : mAm T (fun k => if k < T.2.2.2.1 then tGives T k else pa k) = bAm T := mAm_cong (fun g hg => if_pos hg)
  have e2 : mWt T (fun k => if k < T.2.2.2.1 then tGives T k else pa k) = bWt T := mWt_cong (fun g hg => if_pos hg)
  exact hQ _ _ (by rw [← e1, ← e2]; exact ⟨hMhM_2.1, hMhM_2.2.1, hMhM_2.2.2⟩) (fun g hg => if_pos hg) (okP_gp ok hp) ((sm.rf.tr (hshM_1.mono (by omega) (by omega))).tr (hshM_2.mono (by omega) (by omega)))
set_option maxRecDepth 100000 in
set_option maxHeartbeats 4000000 in
theorem f_X6_castsTrue {G : gb_G} (hW : gW G) {Q : Option Value → gb_M → Prop} {mM : gb_M} {tn : Nat} (hB : isB G mM tn) {b : Nat} {T : Tw} (hT : isT G mM b T) (hb : b + 3 < gb_N G) (ok : okT T) (hbm : (1 ≤ b ∧ b + 3 < 9) ∨ 11 < b) {pa am : Nat → Nat} {w : Nat} (hM : isM G mM pa am w) (hp : okP pa)  (hQ : ∀ M' pa', isM G M' pa' (bAm T) (bWt T) → (∀ g, g < T.2.2.2.1 → pa' g = tGives T g) → okP pa' → sm mM M' 9 11 → Q (some (.int (bI (tTrue T)))) M') : Fn G 6 yX6_castsTrue cX6_castsTrue 2 (some .boolean) [.ref (gb_ad G 0), .ref (gb_ad G (b))] mM Q := by
  have hN := hW.2.2.1
  refine Fn.of hW.1 [(0, .ref (gb_ad G 0)), (1, .ref (gb_ad G (b)))] (by decide) (Nat.le_of_ble_eq_true rfl) rfl ?_
  intro X O
  refine w_aload_n (n := 1) O dX6_castsTrue_0 rfl rfl rfl ?_
  refine w_aload_n (n := 2) O dX6_castsTrue_1 rfl rfl rfl ?_
  refine w_cV (n := 5) (ro := none) (R := fun mM' => ∃ pa' : Nat → Nat, isM G mM' pa' (bAm T) (bWt T) ∧ (∀ g, g < T.2.2.2.1 → pa' g = tGives T g) ∧ okP pa' ∧ sm mM mM' 9 11) (st := []) (st1 := []) (As := [.ref (gb_ad G (b))]) (b := 0) O dX6_castsTrue_2 ul_X6_130 um_X6_cast (f_X6_cast (T := T) hW hB ⟨hT.1, hT.2.1, hT.2.2.1, hT.2.2.2⟩ (by omega) ok (by omega) ⟨hM.1, hM.2.1, hM.2.2⟩ hp (fun M' pa' h1 h2 h3 h4 => ⟨rfl, pa', h1, h2, h3, h4⟩)) rfl (by omega) hB rfl rfl rfl rfl (by decide) (Nat.le_of_ble_eq_true rfl) rfl (fun mhM_1 hM_1 => ?_)
  obtain ⟨pahM_1, hMhM_1, hghM_1, hphM_1, hshM_1⟩ := hM_1
  refine w_aload_n (n := 6) O dX6_castsTrue_5 rfl rfl rfl ?_
  refine w_getf (n := 9) O 2 dX6_castsTrue_6 (by omega) ((hshM_1 (0) (by omega)).trans hB) rfl (by decide) uX6 uf_X6_22 rfl rfl ?_
  refine w_aload_n (n := 10) O dX6_castsTrue_9 rfl rfl rfl ?_
  refine w_cV (n := 13) (ro := some (.int (bI (pTrue T (bAm T) (bWt T))))) (R := fun mM' => mhM_1 = mM') (st := []) (st1 := [.int (bI (pTrue T (bAm T) (bWt T)))]) (As := [.ref (gb_ad G (b))]) (b := 9) O dX6_castsTrue_10 ul_X6_146 um_X1_isTrue (f_X1_isTrue (T := T) hW ⟨((hshM_1 (b) (by omega)).trans hT.1), ((hshM_1 (b + 1) (by omega)).trans hT.2.1), ((hshM_1 (b + 2) (by omega)).trans hT.2.2.1), ((hshM_1 (b + 3) (by omega)).trans hT.2.2.2)⟩ (by omega) ok (by omega) ⟨hMhM_1.1, hMhM_1.2.1, hMhM_1.2.2⟩ (fun m _ => bAm_le ok m) (bWt_le ok) ⟨rfl, rfl⟩) rfl (by omega) hMhM_1.1 rfl rfl rfl rfl (by decide) (Nat.le_of_ble_eq_true rfl) rfl (fun mhM_2 hM_2 => ?_)
  subst hM_2
  refine w_zret O dX6_castsTrue_13 (bI_nar _) ?_
  exact hQ _ _ ⟨hMhM_1.1, hMhM_1.2.1, hMhM_1.2.2⟩ hghM_1 hphM_1 (sm.rf.tr (hshM_1.mono (by omega) (by omega)))
set_option maxRecDepth 100000 in
set_option maxHeartbeats 4000000 in
theorem f_X6_strikeOnce {G : gb_G} (hW : gW G) {Q : Option Value → gb_M → Prop} {mM : gb_M} {tn : Nat} (hB : isB G mM tn) {b : Nat} {T : Tw} (hT : isT G mM b T) (hb : b + 3 < gb_N G) (ok : okT T) (hbm : (1 ≤ b ∧ b + 3 < 9) ∨ 11 < b) {pa am : Nat → Nat} {w : Nat} (hM : isM G mM pa am w) (hp : okP pa) (hsk : T.2.2.2.2.2.2 < 2000)  (hQ : ∀ M', isT G M' b (tStrike T) → isMx G M' → sm2 mM M' b (b + 3) 9 11 → Q none M') : Fn G 6 yX6_strikeOnce cX6_strikeOnce 2 none [.ref (gb_ad G 0), .ref (gb_ad G (b))] mM Q := by
  have hN := hW.2.2.1
  refine Fn.of hW.1 [(0, .ref (gb_ad G 0)), (1, .ref (gb_ad G (b)))] (by decide) (Nat.le_of_ble_eq_true rfl) rfl ?_
  intro X O
  have hk5 := ok.2.2.2.2.2
  refine w_aload_n (n := 1) O dX6_strikeOnce_0 rfl rfl rfl ?_
  refine w_dup (n := 2) O dX6_strikeOnce_1 rfl rfl ?_
  refine w_getf (n := 5) O 6 dX6_strikeOnce_2 (by omega) hT.1 rfl (by decide) uX5 uf_X6_103 rfl rfl ?_
  refine w_iconst (n := 6) O dX6_strikeOnce_5 (v := (nI 1)) (by decide) rfl ?_
  refine w_iaddN (n := 7) O dX6_strikeOnce_6 rfl ?_
  refine w_putf (n := 10) (fs' := [.ref (gb_ad G (b + 1)), .ref (gb_ad G (b + 2)), .ref (gb_ad G (b + 3)), .int (nI (T.2.2.2.1)), .int (nI (T.2.2.2.2.1)), .int (nI (T.2.2.2.2.2.1)), .int (nI ((T.2.2.2.2.2.2 + 1)))]) O 6 dX6_strikeOnce_7 (by omega) hT.1 rfl (by decide) uX5 uf_X6_103 tyX5 tyX5_ok nmX5 rfl rfl rfl (Nat.le_of_ble_eq_true rfl) rfl rfl ?_
  refine w_aload_n (n := 11) O dX6_strikeOnce_10 rfl rfl rfl ?_
  refine w_getf (n := 14) O 6 dX6_strikeOnce_11 (by omega) (va_up_self _ _ _) rfl (by decide) uX5 uf_X6_103 rfl rfl ?_
  refine w_iconst (n := 15) O dX6_strikeOnce_14 (v := (nI 5)) (by decide) rfl ?_
  refine w_iremN (n := 16) O dX6_strikeOnce_15 (by omega) (by omega) (by omega) rfl ?_
  refine w_if_eqN (n := 19) (tgt := 20) O dX6_strikeOnce_16 (by omega) (by decide) rfl (fun c_1 => ?_) (fun c_1 => ?_)
  · skip
    refine w_aload_n (n := 21) O dX6_strikeOnce_20 rfl rfl rfl ?_
    refine w_aload_n (n := 22) O dX6_strikeOnce_21 rfl rfl rfl ?_
    refine w_cV (n := 25) (ro := none) (R := fun mM' => ∃ pa' : Nat → Nat, isM G mM' pa' (bAm ((T.1, T.2.1, T.2.2.1, T.2.2.2.1, T.2.2.2.2.1, T.2.2.2.2.2.1, (T.2.2.2.2.2.2 + 1)))) (bWt ((T.1, T.2.1, T.2.2.1, T.2.2.2.1, T.2.2.2.2.1, T.2.2.2.2.2.1, (T.2.2.2.2.2.2 + 1)))) ∧ (∀ g, g < ((T.1, T.2.1, T.2.2.1, T.2.2.2.1, T.2.2.2.2.1, T.2.2.2.2.2.1, (T.2.2.2.2.2.2 + 1))).2.2.2.1 → pa' g = tGives ((T.1, T.2.1, T.2.2.1, T.2.2.2.1, T.2.2.2.2.1, T.2.2.2.2.2.1, (T.2.2.2.2.2.2 + 1))) g) ∧ okP pa' ∧ sm (va_up mM (b) (.inr (5, [.ref (gb_ad G (b + 1)), .ref (gb_ad G (b + 2)), .ref (gb_ad G (b + 3)), .int (nI (T.2.2.2.1)), .int (nI (T.2.2.2.2.1)), .int (nI (T.2.2.2.2.2.1)), .int (nI ((T.2.2.2.2.2.2 + 1)))]))) mM' 9 11) (st := []) (st1 := []) (As := [.ref (gb_ad G (b))]) (b := 0) O dX6_strikeOnce_22 ul_X6_130 um_X6_cast (f_X6_cast (T := (T.1, T.2.1, T.2.2.1, T.2.2.2.1, T.2.2.2.2.1, T.2.2.2.2.2.1, (T.2.2.2.2.2.2 + 1))) hW ((va_up_ne _ _ (by omega)).trans hB) ⟨(va_up_self _ _ _), ((va_up_ne _ _ (by omega)).trans hT.2.1), ((va_up_ne _ _ (by omega)).trans hT.2.2.1), ((va_up_ne _ _ (by omega)).trans hT.2.2.2)⟩ (by omega) (okT_sk ok hsk) (by omega) ⟨((va_up_ne _ _ (by omega)).trans hM.1), ((va_up_ne _ _ (by omega)).trans hM.2.1), ((va_up_ne _ _ (by omega)).trans hM.2.2)⟩ hp (fun M' pa' h1 h2 h3 h4 => ⟨rfl, pa', h1, h2, h3, h4⟩)) rfl (by omega) ((va_up_ne _ _ (by omega)).trans hB) rfl rfl rfl rfl (by decide) (Nat.le_of_ble_eq_true rfl) rfl (fun mhM_2 hM_2 => ?_)
    obtain ⟨pahM_2, hMhM_2, hghM_2, hphM_2, hshM_2⟩ := hM_2
    have hwb := bWt_le (okT_sk ok hsk)
    refine w_aload_n (n := 26) O dX6_strikeOnce_25 rfl rfl rfl ?_
    refine w_getf (n := 29) O 2 dX6_strikeOnce_26 (by omega) ((hshM_2 (0) (by omega)).trans ((va_up_ne _ _ (by omega)).trans hB)) rfl (by decide) uX6 uf_X6_22 rfl rfl ?_
    refine w_getf (n := 32) O 2 dX6_strikeOnce_29 (by omega) hMhM_2.1 rfl (by decide) uX1 uf_X6_136 rfl rfl ?_
    refine w_if_leN (n := 35) (tgt := 51) O dX6_strikeOnce_32 (by omega) (by decide) rfl (fun c_3 => ?_) (fun c_3 => ?_)
    · skip
      refine w_vret O dX6_strikeOnce_51 ?_
      have e : tStrike T = (T.1, T.2.1, T.2.2.1, T.2.2.2.1, T.2.2.2.2.1, T.2.2.2.2.2.1, T.2.2.2.2.2.2 + 1) := by unfold tStrike; rw [if_neg (fun q => by have q2 := q.2; have q3 : bWt (T.1, T.2.1, T.2.2.1, T.2.2.2.1, T.2.2.2.2.1, T.2.2.2.2.2.1, T.2.2.2.2.2.2 + 1) = bWt T := rfl; omega)]
      rw [e] at hQ
      exact hQ _ ⟨((hshM_2 (b) (by omega)).trans (va_up_self _ _ _)), ((hshM_2 (b + 1) (by omega)).trans ((va_up_ne _ _ (by omega)).trans hT.2.1)), ((hshM_2 (b + 2) (by omega)).trans ((va_up_ne _ _ (by omega)).trans hT.2.2.1)), ((hshM_2 (b + 3) (by omega)).trans ((va_up_ne _ _ (by omega)).trans hT.2.2.2))⟩ ⟨_, _, _, ⟨hMhM_2.1, hMhM_2.2.1, hMhM_2.2.2⟩, hphM_2⟩ ((sm2.rf.up (by omega)).tr (sm.r hshM_2))
    · skip
      refine w_aload_n (n := 36) O dX6_strikeOnce_35 rfl rfl rfl ?_
      refine w_getf (n := 39) O 2 dX6_strikeOnce_36 (by omega) ((hshM_2 (b) (by omega)).trans (va_up_self _ _ _)) rfl (by decide) uX5 uf_X6_127 rfl rfl ?_
      refine w_aload_n (n := 40) O dX6_strikeOnce_39 rfl rfl rfl ?_
      refine w_getf (n := 43) O 2 dX6_strikeOnce_40 (by omega) ((hshM_2 (0) (by omega)).trans ((va_up_ne _ _ (by omega)).trans hB)) rfl (by decide) uX6 uf_X6_22 rfl rfl ?_
      refine w_cV (n := 46) (ro := some (.int (nI (sMx (bAm ((T.1, T.2.1, T.2.2.1, T.2.2.2.1, T.2.2.2.2.1, T.2.2.2.2.2.1, (T.2.2.2.2.2.2 + 1)))) 2)))) (R := fun mM' => mhM_2 = mM') (st := [.ref (gb_ad G (b + 3))]) (st1 := [.int (nI (sMx (bAm ((T.1, T.2.1, T.2.2.1, T.2.2.2.1, T.2.2.2.2.1, T.2.2.2.2.2.1, (T.2.2.2.2.2.2 + 1)))) 2)), .ref (gb_ad G (b + 3))]) (As := []) (b := 9) O dX6_strikeOnce_43 ul_X6_271 um_X1_mostOf (f_X1_mostOf hW ⟨hMhM_2.1, hMhM_2.2.1, hMhM_2.2.2⟩ (fun m _ => bAm_le (okT_sk ok hsk) m) (bWt_le (okT_sk ok hsk)) ⟨rfl, rfl⟩) rfl (by omega) hMhM_2.1 rfl rfl rfl rfl (by decide) (Nat.le_of_ble_eq_true rfl) rfl (fun mhM_4 hM_4 => ?_)
      subst hM_4
      have hmx := sMx_le (bAm (T.1, T.2.1, T.2.2.1, T.2.2.2.1, T.2.2.2.2.1, T.2.2.2.2.2.1, T.2.2.2.2.2.2 + 1)) 2
      have hwn := (ok.2.2.1 (sMx (bAm (T.1, T.2.1, T.2.2.1, T.2.2.2.1, T.2.2.2.2.1, T.2.2.2.2.2.1, T.2.2.2.2.2.2 + 1)) 2) (by omega)).2
      refine w_dup2 (n := 47) O dX6_strikeOnce_46 rfl rfl rfl ?_
      refine w_ialdN (n := 48) O dX6_strikeOnce_47 hW.2.1 (by omega) ((hshM_2 (b + 3) (by omega)).trans ((va_up_ne _ _ (by omega)).trans hT.2.2.2)) (by omega) (by decide) rfl ?_
      refine w_iconst (n := 49) O dX6_strikeOnce_48 (v := (nI 1)) (by decide) rfl ?_
      refine w_iaddN (n := 50) O dX6_strikeOnce_49 rfl ?_
      refine w_iastN (n := 51) O dX6_strikeOnce_50 hW.2.1 (by omega) ((hshM_2 (b + 3) (by omega)).trans ((va_up_ne _ _ (by omega)).trans hT.2.2.2)) (by omega) (by decide) rfl ?_
      refine w_vret O dX6_strikeOnce_51 ?_
      have e : tStrike T = (T.1, T.2.1, upN T.2.2.1 (sMx (bAm T) 2) (T.2.2.1 (sMx (bAm T) 2) + 1), T.2.2.2.1, T.2.2.2.2.1, T.2.2.2.2.2.1, T.2.2.2.2.2.2 + 1) := by unfold tStrike; rw [if_pos ⟨by omega, by have q3 : bWt (T.1, T.2.1, T.2.2.1, T.2.2.2.1, T.2.2.2.2.1, T.2.2.2.2.2.1, T.2.2.2.2.2.2 + 1) = bWt T := rfl; omega⟩]
      rw [e] at hQ
      exact hQ _ ⟨((va_up_ne _ _ (by omega)).trans ((hshM_2 (b) (by omega)).trans (va_up_self _ _ _))), ((va_up_ne _ _ (by omega)).trans ((hshM_2 (b + 1) (by omega)).trans ((va_up_ne _ _ (by omega)).trans hT.2.1))), ((va_up_ne _ _ (by omega)).trans ((hshM_2 (b + 2) (by omega)).trans ((va_up_ne _ _ (by omega)).trans hT.2.2.1))), (va_up_self _ _ _)⟩ ⟨_, _, _, ⟨((va_up_ne _ _ (by omega)).trans hMhM_2.1), ((va_up_ne _ _ (by omega)).trans hMhM_2.2.1), ((va_up_ne _ _ (by omega)).trans hMhM_2.2.2)⟩, hphM_2⟩ (((sm2.rf.up (by omega)).tr (sm.r hshM_2)).up (by omega))
  · skip
    refine w_vret O dX6_strikeOnce_19 ?_
    have e : tStrike T = (T.1, T.2.1, T.2.2.1, T.2.2.2.1, T.2.2.2.2.1, T.2.2.2.2.2.1, T.2.2.2.2.2.2 + 1) := by unfold tStrike; rw [if_neg (by omega)]
    rw [e] at hQ
    exact hQ _ ⟨(va_up_self _ _ _), ((va_up_ne _ _ (by omega)).trans hT.2.1), ((va_up_ne _ _ (by omega)).trans hT.2.2.1), ((va_up_ne _ _ (by omega)).trans hT.2.2.2)⟩ ⟨pa, am, w, ⟨((va_up_ne _ _ (by omega)).trans hM.1), ((va_up_ne _ _ (by omega)).trans hM.2.1), ((va_up_ne _ _ (by omega)).trans hM.2.2)⟩, hp⟩ (sm2.rf.up (by omega))
