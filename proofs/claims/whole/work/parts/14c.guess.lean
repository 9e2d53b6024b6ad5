set_option maxRecDepth 100000 in
set_option maxHeartbeats 4000000 in
theorem f_guess_0 {G : gb_G} (hW : gW G) : gfP G 0 := by
  intro Q mM st sf sn ft ln lo hi le gi mo gu ts am tl T g c hG ok hge hcg hst hsn hgu hmid htab hfold hQ
  have hn4 := ok.1
  have eg : g = T.2.2.2.1 := by omega
  subst eg
  have hc4 : c < 10000 := Nat.lt_of_lt_of_le hcg (Nat.pow_le_pow_right (by decide) hn4)
  have hgd : ∀ o, o < T.2.2.2.1 → gu o = dig T.2.2.2.1 c o := hgu
  have hmd : gMid T (dig T.2.2.2.1 c) T.2.2.2.1 ts am := hmid
  have hfd : gFold T (fitB T st sf sn) tl c ft ln lo hi le := by simpa using hfold
  have hN := hW.2.2.1
  refine Fn.of hW.1 [(0, .ref (gb_ad G 19)), (1, .int (nI (g))), (2, .int (nI (c)))] (by decide) (Nat.le_of_ble_eq_true rfl) rfl ?_
  intro X O
  refine w_iload_n (n := 1) O dX0_guessFrom_0 rfl rfl rfl ?_
  refine w_aload_n (n := 2) O dX0_guessFrom_1 rfl rfl rfl ?_
  refine w_getf (n := 5) O 13 dX0_guessFrom_2 (by omega) hG.1 rfl (by decide) uX0 uf_X0_52 rfl rfl ?_
  refine w_icmp_geN (n := 8) (tgt := 13) O dX0_guessFrom_5 (by omega) (by omega) (by decide) rfl (fun c_1 => ?_) (fun c_1 => by omega)
  refine w_aload_n (n := 14) O dX0_guessFrom_13 rfl rfl rfl ?_
  refine w_iload_n (n := 15) O dX0_guessFrom_14 rfl rfl rfl ?_
  refine w_cV (n := 18) (ro := none) (R := fun mM' => ∃ ft' ln' lo' hi' le', isG G mM' st sf sn (ft') (ln') (lo') (hi') (le') gi mo gu ts am T.2.2.2.1 tl ∧ gFold T (fitB T st sf sn) tl (c + 1) ft' ln' lo' hi' le' ∧ sm mM mM' 19 29) (st := []) (st1 := []) (As := [.int (nI (c))]) (b := 19) O dX0_guessFrom_15 ul_X0_103 um_X0_judge (f_X0_judge (T := T) hW ⟨hG.1, hG.2.1, hG.2.2.1, hG.2.2.2.1, hG.2.2.2.2.1, hG.2.2.2.2.2.1, hG.2.2.2.2.2.2.1, hG.2.2.2.2.2.2.2.1, hG.2.2.2.2.2.2.2.2.1, hG.2.2.2.2.2.2.2.2.2.1, hG.2.2.2.2.2.2.2.2.2.2⟩ ok rfl (c := c) (by omega) hst hsn hgd hmd hfd (fun M' a b c d e h1 h2 h3 => ⟨rfl, a, b, c, d, e, h1, h2, h3⟩)) rfl (by omega) hG.1 rfl rfl rfl rfl (by omega) (Nat.le_of_ble_eq_true rfl) rfl (fun mhM_2 hM_2 => ?_)
  obtain ⟨fthM_2, lnhM_2, lohM_2, hihM_2, lehM_2, hGhM_2, hfhM_2, hshM_2⟩ := hM_2
  refine w_vret O dX0_guessFrom_18 ?_
  exact hQ _ _ _ _ _ _ _ ⟨hGhM_2.1, hGhM_2.2.1, hGhM_2.2.2.1, hGhM_2.2.2.2.1, hGhM_2.2.2.2.2.1, hGhM_2.2.2.2.2.2.1, hGhM_2.2.2.2.2.2.2.1, hGhM_2.2.2.2.2.2.2.2.1, hGhM_2.2.2.2.2.2.2.2.2.1, hGhM_2.2.2.2.2.2.2.2.2.2.1, hGhM_2.2.2.2.2.2.2.2.2.2.2⟩ (by simpa using hfhM_2) (sm.rf.tr (hshM_2.mono (by omega) (by omega)))
