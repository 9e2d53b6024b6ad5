theorem nmI_n {bs : Nat → Nat} {tk b en n : Nat} (hn : n < 2 ^ 31) (h : nmI bs tk b en = nI n) : tk = 1 ∧ nmO bs b en = some n := by
  unfold nmI at h
  by_cases q : tk = 1
  · rw [if_pos q] at h
    exact ⟨q, (oI_eq (fun k hk => by have := nm_lt hk; omega) hn).mp h⟩
  · rw [if_neg q] at h
    exact absurd h (nI_neg4 hn)
theorem nm_line {bs : Nat → Nat} {tk b en n so : Nat} (hn : n ≤ 7) (h : nmI bs tk b en = nI n) (hs : tk + 1 = so) : tkK bs so b en = nmK (some n) ∧ wdN bs so b en = nmW (some n) := by
  obtain ⟨h1, h2⟩ := nmI_n (by omega) h
  subst h1; subst hs
  have := nm_words h2
  exact ⟨this.2.1, this.2.2⟩
theorem nm_bad0 : ∀ k, k < 12 → wIn (nI k) (nI 0) (nI 7) = false → nmW (some k) = 5 := by decide +kernel
theorem nm_bad {bs : Nat → Nat} {tk b en so : Nat} (h : wIn (nmI bs tk b en) (nI 0) (nI 7) = false) (hs : tk + 1 = so) : wdN bs so b en = 5 := by
  by_cases q : tk = 1
  · subst q; subst hs
    rw [show 1 + 1 = 2 from rfl, (nm_words (bs := bs) (sa := b) (pl := en) rfl).2.2]
    rw [show nmI bs 1 b en = oI (nmO bs b en) from if_pos rfl] at h
    cases o : nmO bs b en with
    | none => rfl
    | some k => rw [o] at h; exact nm_bad0 k (nm_lt o) h
  · subst hs
    exact (no_words (by omega)).2.2
theorem lin_K {bs : Nat → Nat} {ln : Nat} {Z : Sc} {so sa pl : Nat} (hw : wdN bs so sa pl = 0) (hg : ¬ 4 ≤ Z.1.2.2.2.1) : fLin bs ln Z so sa pl = orF (orF (aM bs ln 3 pl, tkB bs ln pl) (orF (aN bs ln 0 9 (tkE bs ln pl), tkB bs ln (tkE bs ln pl)) (aN bs ln 0 3 (tkE bs ln (tkE bs ln pl)), tkB bs ln (tkE bs ln (tkE bs ln pl))))) (fSem bs ln (tkE bs ln (tkE bs ln (tkE bs ln pl)))) ∧ eLin bs ln so sa pl = tkE bs ln (tkE bs ln (tkE bs ln (tkE bs ln pl))) ∧ uLin bs ln Z so sa pl = uGiv bs ln Z (tkK bs so sa pl) pl := by
  unfold fLin eLin uLin fWd eWd uWd
  rw [hw]
  refine ⟨?_, rfl, rfl⟩
  show orF (fGiv bs ln Z sa pl) _ = _
  unfold fGiv
  rw [if_neg hg]
  rfl
theorem lin_S {bs : Nat → Nat} {ln : Nat} {Z : Sc} {so sa pl : Nat} (hw : wdN bs so sa pl = 1) : fLin bs ln Z so sa pl = orF (fSor bs ln Z pl) (fSem bs ln (tkE bs ln pl)) ∧ eLin bs ln so sa pl = tkE bs ln (tkE bs ln pl) ∧ uLin bs ln Z so sa pl = uSor bs ln Z pl := by
  unfold fLin eLin uLin fWd eWd uWd
  rw [hw]
  exact ⟨rfl, rfl, rfl⟩
theorem lin_H {bs : Nat → Nat} {ln : Nat} {Z : Sc} {so sa pl : Nat} (hw : wdN bs so sa pl = 2) : fLin bs ln Z so sa pl = orF (fHol bs ln Z pl) (fSem bs ln (tkE bs ln (tkE bs ln pl))) ∧ eLin bs ln so sa pl = tkE bs ln (tkE bs ln (tkE bs ln pl)) ∧ uLin bs ln Z so sa pl = uHol bs ln Z pl := by
  unfold fLin eLin uLin fWd eWd uWd
  rw [hw]
  exact ⟨rfl, rfl, rfl⟩
theorem lin_A {bs : Nat → Nat} {ln : Nat} {Z : Sc} {so sa pl : Nat} (hw : wdN bs so sa pl = 3) : fLin bs ln Z so sa pl = orF (fAdd bs ln Z pl) (fSem bs ln (tkE bs ln (tkE bs ln pl))) ∧ eLin bs ln so sa pl = tkE bs ln (tkE bs ln (tkE bs ln pl)) ∧ uLin bs ln Z so sa pl = uAdd bs ln Z pl := by
  unfold fLin eLin uLin fWd eWd uWd
  rw [hw]
  exact ⟨rfl, rfl, rfl⟩
theorem lin_Q {bs : Nat → Nat} {ln : Nat} {Z : Sc} {so sa pl : Nat} (hw : wdN bs so sa pl = 4) (ha : Z.2.2.2.2 = false) : fLin bs ln Z so sa pl = orF (orF (aN bs ln 3 12 pl, tkB bs ln pl) (aN bs ln 0 10 (tkE bs ln pl), tkB bs ln (tkE bs ln pl))) (fSem bs ln (tkE bs ln (tkE bs ln pl))) ∧ eLin bs ln so sa pl = tkE bs ln (tkE bs ln (tkE bs ln pl)) ∧ uLin bs ln Z so sa pl = uAsk bs ln Z pl := by
  unfold fLin eLin uLin fWd eWd uWd
  rw [hw]
  refine ⟨?_, rfl, rfl⟩
  show orF (fAsk bs ln Z sa pl) _ = _
  unfold fAsk
  rw [ha]
  rfl
theorem lin_5 {bs : Nat → Nat} {ln : Nat} {Z : Sc} {so sa pl : Nat} (hw : wdN bs so sa pl = 5) : fLin bs ln Z so sa pl = (2, sa) := by
  unfold fLin fWd
  rw [hw]
  rfl
theorem lin_F {bs : Nat → Nat} {ln : Nat} {Z : Sc} {so sa pl : Nat} (hw : wdN bs so sa pl = 0) (hg : 4 ≤ Z.1.2.2.2.1) : fLin bs ln Z so sa pl = (5, sa) := by
  unfold fLin fWd
  rw [hw]
  show orF (fGiv bs ln Z sa pl) _ = _
  unfold fGiv
  rw [if_pos hg]
  rfl
theorem lin_T {bs : Nat → Nat} {ln : Nat} {Z : Sc} {so sa pl : Nat} (hw : wdN bs so sa pl = 4) (ha : Z.2.2.2.2 = true) : fLin bs ln Z so sa pl = (4, sa) := by
  unfold fLin fWd
  rw [hw]
  show orF (fAsk bs ln Z sa pl) _ = _
  unfold fAsk
  rw [ha]
  rfl
theorem lin_lex {bs : Nat → Nat} {ln : Nat} {Z : Sc} {so sa pl n : Nat} (hn : n ≤ 7) (hw : wdN bs so sa pl = nmW (some n)) (hg : n ≤ 3 → ¬ 4 ≤ Z.1.2.2.2.1) (ha : n = 7 → Z.2.2.2.2 = false) (hs : tkS bs ln pl = 0) : fLin bs ln Z so sa pl = (1, tkB bs ln pl) := by
  rcases (show n ≤ 3 ∨ n = 4 ∨ n = 5 ∨ n = 6 ∨ n = 7 by omega) with z | z | z | z | z
  · have e : nmW (some n) = 0 := (show ∀ n, n ≤ 3 → nmW (some n) = 0 by decide) n z
    rw [(lin_K (hw.trans e) (hg z)).1, aM_1 hs]
    rfl
  · subst z
    rw [(lin_S hw).1]
    unfold fSor
    rw [aN_1 hs]
    rfl
  · subst z
    rw [(lin_H hw).1]
    unfold fHol
    rw [aN_1 hs]
    rfl
  · subst z
    rw [(lin_A hw).1]
    unfold fAdd
    rw [aM_1 hs]
    rfl
  · subst z
    rw [(lin_Q hw (ha rfl)).1, aN_1 hs]
    rfl
theorem fin_1 {bs : Nat → Nat} {ln e : Nat} {f X : Nat × Nat} (h : ¬ (orF f (aTB bs ln e)).1 = 0) : orF (orF f (fSem bs ln e)) X = orF f (aTB bs ln e) ∧ ¬ (orF f (fSem bs ln e)).1 = 0 := by
  by_cases z : f.1 = 0
  · rw [orF_0 z] at h ⊢
    obtain ⟨h1, h2⟩ := aT_1 (bs := bs) (ln := ln) (p := e) h
    have e1 : fSem bs ln e = aTB bs ln e := by
      unfold fSem aTB
      rw [h1, if_pos h2]
    rw [orF_0 z, e1]
    exact ⟨orF_n h, h⟩
  · rw [orF_n z, orF_n z, orF_n z]
    exact ⟨rfl, z⟩
theorem fin_2 {bs : Nat → Nat} {ln e : Nat} {f X : Nat × Nat} (h : f.1 = 0) (hs : tkS bs ln e = 4) : orF (orF f (fSem bs ln e)) X = X := by
  rw [orF_0 h]
  unfold fSem
  rw [hs]
  rfl
theorem fin_3 {bs : Nat → Nat} {ln e : Nat} {f X : Nat × Nat} (h : f.1 = 0) (h0 : ¬ tkS bs ln e = 0) (hs : ¬ tkS bs ln e = 4) : orF (orF f (fSem bs ln e)) X = (2, tkB bs ln e) ∧ ¬ (orF f (fSem bs ln e)).1 = 0 := by
  have e1 : fSem bs ln e = (2, tkB bs ln e) := by
    unfold fSem
    rw [if_neg h0, if_neg hs]
  rw [orF_0 h, e1]
  exact ⟨rfl, show ¬ 2 = 0 by decide⟩
set_option maxRecDepth 100000 in
set_option maxHeartbeats 4000000 in
theorem f_X7_readLine {G : gb_G} (hW : gW G) {Q : Option Value → gb_M → Prop} {mM : gb_M} {Y : Nat → Int32} {bs rp : Nat → Nat} {ln rg : Nat} {ia : Bool} {ht ad hw ba tk va e : Nat} (hR : isR G mM Y bs rp ln rg ia ht ad hw 0 ba (tkE bs ln e) (tkB bs ln e) tk va) (hln : ln ≤ 160) (hbs : ∀ k, k < ln → bs k ≤ 127) (hel : e ≤ ln) (htk : tk + 1 = tkS bs ln e) (htv : tkS bs ln e = 3 → va = tkV bs ln e) (hva9 : va ≤ 99) {Z : Sc} (hZ : ZR rp rg ia ht ad hw Z) (hok : okZ Z)  (hQ : ∀ M' rp' rg' ia' ht' ad' hw', PM G M' Y bs rp' ln rg' ia' ht' ad' hw' (orF (fLin bs ln Z (tkS bs ln e) (tkB bs ln e) (tkE bs ln e)) (aTB bs ln (eLin bs ln (tkS bs ln e) (tkB bs ln e) (tkE bs ln e)))) (eLin bs ln (tkS bs ln e) (tkB bs ln e) (tkE bs ln e)) → ((fLin bs ln Z (tkS bs ln e) (tkB bs ln e) (tkE bs ln e)).1 = 0 → ZR rp' rg' ia' ht' ad' hw' (uLin bs ln Z (tkS bs ln e) (tkB bs ln e) (tkE bs ln e))) → sm2 mM M' 49 49 51 51 → Q none M') : Fn G 5 yX7_readLine cX7_readLine 2 none [.ref (gb_ad G 49)] mM Q := by
  have hE1 := tkE_ge bs ln e
  have hE2 := tkE_le (bs := bs) hel
  have hS4 := tkS_le bs ln e
  have hB1 := tkB_ge bs ln e
  obtain ⟨hz1, hz2, hz3, hz4, hz5, hz6⟩ := id hZ
  have hgv4 := hok.1.1
  have hN := hW.2.2.1
  refine Fn.of hW.1 [(0, .ref (gb_ad G 49))] (by decide) (Nat.le_of_ble_eq_true rfl) rfl ?_
  intro X O
  refine w_aload_n (n := 1) O dX7_readLine_0 rfl rfl rfl ?_
  refine w_cV (n := 4) (ro := some (.int (nmI bs tk (tkB bs ln e) (tkE bs ln e)))) (R := fun mM' => mM = mM') (st := []) (st1 := [.int (nmI bs tk (tkB bs ln e) (tkE bs ln e))]) (As := []) (b := 49) O dX7_readLine_1 ul_X7_101 um_X7_nameHere (f_X7_nameHere hW ⟨hR.1, hR.2.1, hR.2.2.1, hR.2.2.2.1, hR.2.2.2.2⟩ hln hbs (by omega) (by omega) (by omega) ⟨rfl, rfl⟩) rfl (by omega) hR.1 rfl rfl rfl rfl (by decide) (Nat.le_of_ble_eq_true rfl) rfl (fun mhM_1 hM_1 => ?_)
  subst hM_1
  refine w_istore_n (n := 5) (lv' := [(1, .int (nmI bs tk (tkB bs ln e) (tkE bs ln e))), (0, .ref (gb_ad G 49))]) O dX7_readLine_4 rfl (by decide) rfl rfl ?_
  refine w_iload_n (n := 6) O dX7_readLine_5 rfl rfl rfl ?_
  refine w_i2l (n := 7) O dX7_readLine_6 rfl ?_
  refine w_lconst (n := 8) O dX7_readLine_7 (v := lN 0) (by decide) rfl ?_
  refine w_ldc2 (n := 11) O dX7_readLine_8 uc_X7_121 rfl ?_
  refine w_topl (lN 7) (by decide) ?_
  refine w_cS (n := 14) (ro := some (.int (bI (wIn (nmI bs tk (tkB bs ln e) (tkE bs ln e)) (nI 0) (nI 7))))) (R := fun mM' => mM = mM') (st := []) (st1 := [.int (bI (wIn (nmI bs tk (tkB bs ln e) (tkE bs ln e)) (nI 0) (nI 7)))]) (As := [.long ((nmI bs tk (tkB bs ln e) (tkE bs ln e)).toInt64), .long (lN 0), .long (lN 7)]) O dX7_readLine_11 ul_X7_50 um_X7_in (f_X7_in (x := (nmI bs tk (tkB bs ln e) (tkE bs ln e))) (y := (nI 0)) (z := (nI 7)) hW rfl (nI_l (by decide)).symm (nI_l (by decide)).symm ⟨rfl, rfl⟩) rfl rfl rfl (by decide) (Nat.le_of_ble_eq_true rfl) rfl (fun mhM_2 hM_2 => ?_)
  subst hM_2
  refine w_if_neB (n := 17) (tgt := 23) O dX7_readLine_14 (by decide) rfl (fun c_3 => ?_) (fun c_3 => ?_)
  · skip
    obtain ⟨n, -, hn7, hnm⟩ := wIn_t (by decide) c_3 (by decide)
    rw [hnm]
    obtain ⟨hK9, hW9⟩ := nm_line hn7 hnm htk
    refine w_iload_n (n := 24) O dX7_readLine_23 rfl rfl rfl ?_
    refine w_iconst (n := 25) O dX7_readLine_24 (v := (nI 3)) (by decide) rfl ?_
    refine w_icmp_gtN (n := 28) (tgt := 41) O dX7_readLine_25 (by omega) (by omega) (by decide) rfl (fun c_4 => ?_) (fun c_4 => ?_)
    · skip
      refine w_iload_n (n := 42) O dX7_readLine_41 rfl rfl rfl ?_
      refine w_bipush (n := 44) O dX7_readLine_42 (v := (nI 7)) (by decide) rfl ?_
      refine w_icmp_neN (n := 47) (tgt := 59) O dX7_readLine_44 (by omega) (by omega) (by decide) rfl (fun c_5 => ?_) (fun c_5 => ?_)
      · skip
        refine w_aload_n (n := 60) O dX7_readLine_59 rfl rfl rfl ?_
        refine w_aload_n (n := 61) O dX7_readLine_60 rfl rfl rfl ?_
        refine w_getf (n := 64) O 4 dX7_readLine_61 (by omega) hR.1 rfl (by decide) uX7 uf_X7_123 rfl rfl ?_
        refine w_if_neB (n := 67) (tgt := 73) O dX7_readLine_64 (by decide) rfl (fun c_6 => ?_) (fun c_6 => ?_)
        · skip
          refine w_iconst (n := 74) O dX7_readLine_73 (v := (nI 1)) (by decide) rfl ?_
          refine w_goto (tgt := 78) O dX7_readLine_74 (by decide) ?_
          refine w_top (bI true) (by decide) ?_
          refine w_putf (n := 81) (fs' := [.ref (gb_ad G 50), .int (Y 1), .ref (gb_ad G 51), .int (nI (rg)), .int (bI (true)), .int (nI (ht)), .int (nI (ad)), .int (dI hw), .ref (gb_ad G 52), .int (nI (ln)), .int (Y 10), .int (nI 0), .int (nI (ba)), .int (nI (tkE bs ln e)), .int (nI (tkB bs ln e)), .int (nI (tk)), .int (nI (va)), .ref (gb_ad G 53), .ref (gb_ad G 54), .int (Y 19), .int (Y 20), .int (Y 21), .int (Y 22), .ref (gb_ad G 55), .int (Y 24), .ref (gb_ad G 56), .int (Y 26), .ref (gb_ad G 57), .ref (gb_ad G 58), .ref (gb_ad G 59), .ref (gb_ad G 60), .int (Y 31)]) O 4 dX7_readLine_78 (by omega) hR.1 rfl (by decide) uX7 uf_X7_123 tyX7 tyX7_ok nmX7 rfl (bI_nar _) (bI_fit _) (Nat.le_of_ble_eq_true rfl) rfl rfl ?_
          refine w_aload_n (n := 82) O dX7_readLine_81 rfl rfl rfl ?_
          refine w_cV (n := 85) (ro := none) (R := fun mM' => PM G mM' Y bs rp ln rg true ht ad hw (aT bs ln (tkE bs ln e), tkB bs ln (tkE bs ln e)) (tkE bs ln e) ∧ sm (va_up mM (49) (.inr (7, [.ref (gb_ad G 50), .int (Y 1), .ref (gb_ad G 51), .int (nI (rg)), .int (bI (true)), .int (nI (ht)), .int (nI (ad)), .int (dI hw), .ref (gb_ad G 52), .int (nI (ln)), .int (Y 10), .int (nI 0), .int (nI (ba)), .int (nI (tkE bs ln e)), .int (nI (tkB bs ln e)), .int (nI (tk)), .int (nI (va)), .ref (gb_ad G 53), .ref (gb_ad G 54), .int (Y 19), .int (Y 20), .int (Y 21), .int (Y 22), .ref (gb_ad G 55), .int (Y 24), .ref (gb_ad G 56), .int (Y 26), .ref (gb_ad G 57), .ref (gb_ad G 58), .ref (gb_ad G 59), .ref (gb_ad G 60), .int (Y 31)]))) mM' 49 49) (st := []) (st1 := []) (As := []) (b := 49) O dX7_readLine_82 ul_X7_91 um_X7_step (f_X7_step1 hW ⟨(va_up_self _ _ _), ((va_up_ne _ _ (by decide)).trans hR.2.1), ((va_up_ne _ _ (by decide)).trans hR.2.2.1), ((va_up_ne _ _ (by decide)).trans hR.2.2.2.1), ((va_up_ne _ _ (by decide)).trans hR.2.2.2.2)⟩ hln hbs (by omega) (fun M' h1 h2 => ⟨rfl, h1, h2⟩)) rfl (by omega) (va_up_self _ _ _) rfl rfl rfl rfl (by omega) (Nat.le_of_ble_eq_true rfl) rfl (fun mhM_7 hM_7 => ?_)
          obtain ⟨⟨bahM_7, sphM_7, hehM_7, tkhM_7, vahM_7, hRhM_7, hLhM_7, he9hM_7⟩, hshM_7⟩ := hM_7
          obtain ⟨hl1hM_7, hl2hM_7, hl3hM_7, hl4hM_7, hl5hM_7, hl6hM_7, hl7hM_7⟩ := id hLhM_7
          have hat := aT_le bs ln (tkE bs ln e)
          refine w_aload_n (n := 86) O dX7_readLine_85 rfl rfl rfl ?_
          refine w_getf (n := 89) O 11 dX7_readLine_86 (by omega) hRhM_7.1 rfl (by decide) uX7 uf_X7_57 rfl rfl ?_
          refine w_if_leN (n := 92) (tgt := 93) O dX7_readLine_89 (by omega) (by decide) rfl (fun c_8 => ?_) (fun c_8 => ?_)
          · skip
            refine w_aload_n (n := 94) O dX7_readLine_93 rfl rfl rfl ?_
            refine w_iload_n (n := 95) O dX7_readLine_94 rfl rfl rfl ?_
            rcases (show n ≤ 3 ∨ n = 4 ∨ n = 5 ∨ n = 6 ∨ n = 7 by omega) with hn | hn | hn | hn | hn
            · skip
              refine w_cV (n := 98) (ro := none) (R := fun mM' => ∃ q1 q2 q3 q4 q5, PM G mM' Y bs q1 ln q2 true q3 q4 q5 (orF (orF (aM bs ln 3 (tkE bs ln e), tkB bs ln (tkE bs ln e)) (orF (aN bs ln 0 9 (tkE bs ln (tkE bs ln e)), tkB bs ln (tkE bs ln (tkE bs ln e))) (aN bs ln 0 3 (tkE bs ln (tkE bs ln (tkE bs ln e))), tkB bs ln (tkE bs ln (tkE bs ln (tkE bs ln e)))))) (aTB bs ln (tkE bs ln (tkE bs ln (tkE bs ln (tkE bs ln e)))))) (tkE bs ln (tkE bs ln (tkE bs ln (tkE bs ln e)))) ∧ ((orF (orF (aM bs ln 3 (tkE bs ln e), tkB bs ln (tkE bs ln e)) (orF (aN bs ln 0 9 (tkE bs ln (tkE bs ln e)), tkB bs ln (tkE bs ln (tkE bs ln e))) (aN bs ln 0 3 (tkE bs ln (tkE bs ln (tkE bs ln e))), tkB bs ln (tkE bs ln (tkE bs ln (tkE bs ln e)))))) (aTB bs ln (tkE bs ln (tkE bs ln (tkE bs ln (tkE bs ln e)))))).1 = 0 → ZR q1 q2 true q3 q4 q5 (uGiv bs ln Z n (tkE bs ln e))) ∧ sm2 mhM_7 mM' 49 49 51 51) (st := []) (st1 := []) (As := [.int (nI (n))]) (b := 49) O dX7_readLine_95 ul_X7_127 um_X7_readMore (f_X7_rmK hW ⟨_, _, _, _, _, ⟨hRhM_7.1, hRhM_7.2.1, hRhM_7.2.2.1, hRhM_7.2.2.2.1, hRhM_7.2.2.2.2⟩, hLhM_7, he9hM_7⟩ hln hbs c_8 ⟨hz1, hz2, c_6.symm.trans hz3, hz4, hz5, hz6⟩ hok hn (by omega) (fun M' q1 q2 q3 q4 q5 h1 h2 h3 => ⟨rfl, q1, q2, q3, q4, q5, h1, h2, h3⟩)) rfl (by omega) hRhM_7.1 rfl rfl rfl rfl (by omega) (Nat.le_of_ble_eq_true rfl) rfl (fun mhM_9 hM_9 => ?_)
              obtain ⟨rphM_9, rghM_9, hthM_9, adhM_9, hwhM_9, hPhM_9, hZhM_9, hshM_9⟩ := hM_9
              obtain ⟨bahM_9, sphM_9, hehM_9, tkhM_9, vahM_9, hRhM_9, hLhM_9, he9hM_9⟩ := hPhM_9
              obtain ⟨hl1hM_9, hl2hM_9, hl3hM_9, hl4hM_9, hl5hM_9, hl6hM_9, hl7hM_9⟩ := id hLhM_9
              obtain ⟨eL1, eL2, eL3⟩ := lin_K (ln := ln) (Z := Z) (hW9.trans (show nmW (some n) = 0 from (show ∀ n, n ≤ 3 → nmW (some n) = 0 by decide) n hn)) (by omega)
              rw [hK9, show nmK (some n) = n from (show ∀ n, n ≤ 3 → nmK (some n) = n by decide) n hn] at eL3
              refine w_aload_n (n := 99) O dX7_readLine_98 rfl rfl rfl ?_
              refine w_getf (n := 102) O 11 dX7_readLine_99 (by omega) hRhM_9.1 rfl (by decide) uX7 uf_X7_57 rfl rfl ?_
              refine w_if_neN (n := 105) (tgt := 118) O dX7_readLine_102 (by omega) (by decide) rfl (fun c_10 => ?_) (fun c_10 => ?_)
              · skip
                refine w_aload_n (n := 119) O dX7_readLine_118 rfl rfl rfl ?_
                refine w_cV (n := 122) (ro := none) (R := fun mM' => mhM_9 = mM') (st := []) (st1 := []) (As := []) (b := 49) O dX7_readLine_119 ul_X7_91 um_X7_step (f_X7_step0 hW ⟨hRhM_9.1, hRhM_9.2.1, hRhM_9.2.2.1, hRhM_9.2.2.2.1, hRhM_9.2.2.2.2⟩ hln hbs c_10 (by omega) ⟨rfl, rfl⟩) rfl (by omega) hRhM_9.1 rfl rfl rfl rfl (by omega) (Nat.le_of_ble_eq_true rfl) rfl (fun mhM_11 hM_11 => ?_)
                subst hM_11
                refine w_vret O dX7_readLine_122 ?_
                obtain ⟨f1, f2⟩ := fin_1 (X := aTB bs ln (tkE bs ln (tkE bs ln (tkE bs ln (tkE bs ln (tkE bs ln e)))))) c_10
                have eF : orF (fLin bs ln Z (tkS bs ln e) (tkB bs ln e) (tkE bs ln e)) (aTB bs ln (eLin bs ln (tkS bs ln e) (tkB bs ln e) (tkE bs ln e))) = orF (orF (aM bs ln 3 (tkE bs ln e), tkB bs ln (tkE bs ln e)) (orF (aN bs ln 0 9 (tkE bs ln (tkE bs ln e)), tkB bs ln (tkE bs ln (tkE bs ln e))) (aN bs ln 0 3 (tkE bs ln (tkE bs ln (tkE bs ln e))), tkB bs ln (tkE bs ln (tkE bs ln (tkE bs ln e)))))) (aTB bs ln (tkE bs ln (tkE bs ln (tkE bs ln (tkE bs ln e))))) := by rw [eL1, eL2]; exact f1
                exact hQ _ _ _ _ _ _ _ (by rw [eF, eL2]; exact ⟨_, _, _, _, _, ⟨hRhM_9.1, hRhM_9.2.1, hRhM_9.2.2.1, hRhM_9.2.2.2.1, hRhM_9.2.2.2.2⟩, ⟨hl1hM_9, hl2hM_9, hl3hM_9, hl4hM_9, hl5hM_9, hl6hM_9, fun z => absurd z c_10⟩, tkE_le he9hM_9⟩) (fun z => absurd z (by rw [eL1]; exact f2)) (((sm2.rf.up (by omega)).tr (sm.l hshM_7)).tr hshM_9)
              · skip
                obtain ⟨q1, q2, q3, q4⟩ := hl7hM_9 c_10
                subst q1
                subst q2
                have hR0 := hRhM_9
                rw [c_10] at hR0
                have hq4 := tkS_le bs ln (tkE bs ln (tkE bs ln (tkE bs ln (tkE bs ln e))))
                refine w_aload_n (n := 106) O dX7_readLine_105 rfl rfl rfl ?_
                refine w_getf (n := 109) O 15 dX7_readLine_106 (by omega) hR0.1 rfl (by decide) uX7 uf_X7_66 rfl rfl ?_
                refine w_iconst (n := 110) O dX7_readLine_109 (v := (nI 3)) (by decide) rfl ?_
                refine w_icmp_eqN (n := 113) (tgt := 118) O dX7_readLine_110 (by omega) (by omega) (by decide) rfl (fun c_12 => ?_) (fun c_12 => ?_)
                · skip
                  refine w_aload_n (n := 119) O dX7_readLine_118 rfl rfl rfl ?_
                  refine w_cV (n := 122) (ro := none) (R := fun mM' => PM G mM' Y bs rphM_9 ln rghM_9 true hthM_9 adhM_9 hwhM_9 (aT bs ln (tkE bs ln (tkE bs ln (tkE bs ln (tkE bs ln (tkE bs ln e))))), tkB bs ln (tkE bs ln (tkE bs ln (tkE bs ln (tkE bs ln (tkE bs ln e)))))) (tkE bs ln (tkE bs ln (tkE bs ln (tkE bs ln (tkE bs ln e))))) ∧ sm mhM_9 mM' 49 49) (st := []) (st1 := []) (As := []) (b := 49) O dX7_readLine_119 ul_X7_91 um_X7_step (f_X7_step1 hW ⟨hR0.1, hR0.2.1, hR0.2.2.1, hR0.2.2.2.1, hR0.2.2.2.2⟩ hln hbs (by omega) (fun M' h1 h2 => ⟨rfl, h1, h2⟩)) rfl (by omega) hR0.1 rfl rfl rfl rfl (by omega) (Nat.le_of_ble_eq_true rfl) rfl (fun mhM_13 hM_13 => ?_)
                  obtain ⟨⟨bahM_13, sphM_13, hehM_13, tkhM_13, vahM_13, hRhM_13, hLhM_13, he9hM_13⟩, hshM_13⟩ := hM_13
                  obtain ⟨hl1hM_13, hl2hM_13, hl3hM_13, hl4hM_13, hl5hM_13, hl6hM_13, hl7hM_13⟩ := id hLhM_13
                  refine w_vret O dX7_readLine_122 ?_
                  have hz0 := (orF_z c_10).1
                  have eF : orF (fLin bs ln Z (tkS bs ln e) (tkB bs ln e) (tkE bs ln e)) (aTB bs ln (eLin bs ln (tkS bs ln e) (tkB bs ln e) (tkE bs ln e))) = aTB bs ln (tkE bs ln (tkE bs ln (tkE bs ln (tkE bs ln (tkE bs ln e))))) := by rw [eL1, eL2]; exact fin_2 hz0 (by omega)
                  exact hQ _ _ _ _ _ _ _ (by rw [eF, eL2]; exact ⟨_, _, _, _, _, ⟨hRhM_13.1, hRhM_13.2.1, hRhM_13.2.2.1, hRhM_13.2.2.2.1, hRhM_13.2.2.2.2⟩, hLhM_13, he9hM_13⟩) (fun _ => by rw [eL3]; exact hZhM_9 c_10) ((((sm2.rf.up (by omega)).tr (sm.l hshM_7)).tr hshM_9).tr (sm.l hshM_13))
                · skip
                  refine w_aload_n (n := 114) O dX7_readLine_113 rfl rfl rfl ?_
                  refine w_iconst (n := 115) O dX7_readLine_114 (v := (nI 2)) (by decide) rfl ?_
                  refine w_cV (n := 118) (ro := none) (R := fun mM' => isR G mM' Y bs rphM_9 ln rghM_9 true hthM_9 adhM_9 hwhM_9 2 (tkB bs ln (tkE bs ln (tkE bs ln (tkE bs ln (tkE bs ln e))))) (tkE bs ln (tkE bs ln (tkE bs ln (tkE bs ln (tkE bs ln e))))) (tkB bs ln (tkE bs ln (tkE bs ln (tkE bs ln (tkE bs ln e))))) tkhM_9 vahM_9 ∧ sm mhM_9 mM' 49 49) (st := []) (st1 := []) (As := [.int (nI 2)]) (b := 49) O dX7_readLine_115 ul_X7_87 um_X7_fails (f_X7_fails hW ⟨hR0.1, hR0.2.1, hR0.2.2.1, hR0.2.2.2.1, hR0.2.2.2.2⟩ hln hbs (fun M' h1 h2 => ⟨rfl, h1, h2⟩)) rfl (by omega) hR0.1 rfl rfl rfl rfl (by omega) (Nat.le_of_ble_eq_true rfl) rfl (fun mhM_14 hM_14 => ?_)
                  obtain ⟨hRhM_14, hshM_14⟩ := hM_14
                  refine w_aload_n (n := 119) O dX7_readLine_118 rfl rfl rfl ?_
                  refine w_cV (n := 122) (ro := none) (R := fun mM' => mhM_14 = mM') (st := []) (st1 := []) (As := []) (b := 49) O dX7_readLine_119 ul_X7_91 um_X7_step (f_X7_step0 hW ⟨hRhM_14.1, hRhM_14.2.1, hRhM_14.2.2.1, hRhM_14.2.2.2.1, hRhM_14.2.2.2.2⟩ hln hbs (by decide) (by omega) ⟨rfl, rfl⟩) rfl (by omega) hRhM_14.1 rfl rfl rfl rfl (by omega) (Nat.le_of_ble_eq_true rfl) rfl (fun mhM_15 hM_15 => ?_)
                  subst hM_15
                  refine w_vret O dX7_readLine_122 ?_
                  have hz0 := (orF_z c_10).1
                  obtain ⟨f1, f2⟩ := fin_3 (X := aTB bs ln (tkE bs ln (tkE bs ln (tkE bs ln (tkE bs ln (tkE bs ln e)))))) hz0 (by omega) (show ¬ tkS bs ln (tkE bs ln (tkE bs ln (tkE bs ln (tkE bs ln e)))) = 4 by omega)
                  have eF : orF (fLin bs ln Z (tkS bs ln e) (tkB bs ln e) (tkE bs ln e)) (aTB bs ln (eLin bs ln (tkS bs ln e) (tkB bs ln e) (tkE bs ln e))) = (2, tkB bs ln (tkE bs ln (tkE bs ln (tkE bs ln (tkE bs ln e))))) := by rw [eL1, eL2]; exact f1
                  exact hQ _ _ _ _ _ _ _ (by rw [eF, eL2]; exact ⟨_, _, _, _, _, ⟨hRhM_14.1, hRhM_14.2.1, hRhM_14.2.2.1, hRhM_14.2.2.2.1, hRhM_14.2.2.2.2⟩, ⟨hl1hM_9, hl2hM_9, hl3hM_9, hl4hM_9, (show 2 ≤ 6 by decide), (fun _ => rfl), (fun z => absurd z (show ¬ 2 = 0 by decide))⟩, tkE_le he9hM_9⟩) (fun z => absurd z (by rw [eL1]; exact f2)) ((((sm2.rf.up (by omega)).tr (sm.l hshM_7)).tr hshM_9).tr (sm.l hshM_14))
            · skip
              subst hn
              refine w_cV (n := 98) (ro := none) (R := fun mM' => ∃ q1 q2 q3 q4 q5, PM G mM' Y bs q1 ln q2 true q3 q4 q5 (orF (fSor bs ln Z (tkE bs ln e)) (aTB bs ln (tkE bs ln (tkE bs ln e)))) (tkE bs ln (tkE bs ln e)) ∧ ((orF (fSor bs ln Z (tkE bs ln e)) (aTB bs ln (tkE bs ln (tkE bs ln e)))).1 = 0 → ZR q1 q2 true q3 q4 q5 (uSor bs ln Z (tkE bs ln e))) ∧ sm2 mhM_7 mM' 49 49 51 51) (st := []) (st1 := []) (As := [.int (nI 4)]) (b := 49) O dX7_readLine_95 ul_X7_127 um_X7_readMore (f_X7_rmS hW ⟨_, _, _, _, _, ⟨hRhM_7.1, hRhM_7.2.1, hRhM_7.2.2.1, hRhM_7.2.2.2.1, hRhM_7.2.2.2.2⟩, hLhM_7, he9hM_7⟩ hln hbs c_8 ⟨hz1, hz2, c_6.symm.trans hz3, hz4, hz5, hz6⟩ hok (fun M' q1 q2 q3 q4 q5 h1 h2 h3 => ⟨rfl, q1, q2, q3, q4, q5, h1, h2, h3⟩)) rfl (by omega) hRhM_7.1 rfl rfl rfl rfl (by omega) (Nat.le_of_ble_eq_true rfl) rfl (fun mhM_16 hM_16 => ?_)
              obtain ⟨rphM_16, rghM_16, hthM_16, adhM_16, hwhM_16, hPhM_16, hZhM_16, hshM_16⟩ := hM_16
              obtain ⟨bahM_16, sphM_16, hehM_16, tkhM_16, vahM_16, hRhM_16, hLhM_16, he9hM_16⟩ := hPhM_16
              obtain ⟨hl1hM_16, hl2hM_16, hl3hM_16, hl4hM_16, hl5hM_16, hl6hM_16, hl7hM_16⟩ := id hLhM_16
              obtain ⟨eL1, eL2, eL3⟩ := lin_S (ln := ln) (Z := Z) hW9
              refine w_aload_n (n := 99) O dX7_readLine_98 rfl rfl rfl ?_
              refine w_getf (n := 102) O 11 dX7_readLine_99 (by omega) hRhM_16.1 rfl (by decide) uX7 uf_X7_57 rfl rfl ?_
              refine w_if_neN (n := 105) (tgt := 118) O dX7_readLine_102 (by omega) (by decide) rfl (fun c_17 => ?_) (fun c_17 => ?_)
              · skip
                refine w_aload_n (n := 119) O dX7_readLine_118 rfl rfl rfl ?_
                refine w_cV (n := 122) (ro := none) (R := fun mM' => mhM_16 = mM') (st := []) (st1 := []) (As := []) (b := 49) O dX7_readLine_119 ul_X7_91 um_X7_step (f_X7_step0 hW ⟨hRhM_16.1, hRhM_16.2.1, hRhM_16.2.2.1, hRhM_16.2.2.2.1, hRhM_16.2.2.2.2⟩ hln hbs c_17 (by omega) ⟨rfl, rfl⟩) rfl (by omega) hRhM_16.1 rfl rfl rfl rfl (by omega) (Nat.le_of_ble_eq_true rfl) rfl (fun mhM_18 hM_18 => ?_)
                subst hM_18
                refine w_vret O dX7_readLine_122 ?_
                obtain ⟨f1, f2⟩ := fin_1 (X := aTB bs ln (tkE bs ln (tkE bs ln (tkE bs ln e)))) c_17
                have eF : orF (fLin bs ln Z (tkS bs ln e) (tkB bs ln e) (tkE bs ln e)) (aTB bs ln (eLin bs ln (tkS bs ln e) (tkB bs ln e) (tkE bs ln e))) = orF (fSor bs ln Z (tkE bs ln e)) (aTB bs ln (tkE bs ln (tkE bs ln e))) := by rw [eL1, eL2]; exact f1
                exact hQ _ _ _ _ _ _ _ (by rw [eF, eL2]; exact ⟨_, _, _, _, _, ⟨hRhM_16.1, hRhM_16.2.1, hRhM_16.2.2.1, hRhM_16.2.2.2.1, hRhM_16.2.2.2.2⟩, ⟨hl1hM_16, hl2hM_16, hl3hM_16, hl4hM_16, hl5hM_16, hl6hM_16, fun z => absurd z c_17⟩, tkE_le he9hM_16⟩) (fun z => absurd z (by rw [eL1]; exact f2)) (((sm2.rf.up (by omega)).tr (sm.l hshM_7)).tr hshM_16)
              · skip
                obtain ⟨q1, q2, q3, q4⟩ := hl7hM_16 c_17
                subst q1
                subst q2
                have hR0 := hRhM_16
                rw [c_17] at hR0
                have hq4 := tkS_le bs ln (tkE bs ln (tkE bs ln e))
                refine w_aload_n (n := 106) O dX7_readLine_105 rfl rfl rfl ?_
                refine w_getf (n := 109) O 15 dX7_readLine_106 (by omega) hR0.1 rfl (by decide) uX7 uf_X7_66 rfl rfl ?_
                refine w_iconst (n := 110) O dX7_readLine_109 (v := (nI 3)) (by decide) rfl ?_
                refine w_icmp_eqN (n := 113) (tgt := 118) O dX7_readLine_110 (by omega) (by omega) (by decide) rfl (fun c_19 => ?_) (fun c_19 => ?_)
                · skip
                  refine w_aload_n (n := 119) O dX7_readLine_118 rfl rfl rfl ?_
                  refine w_cV (n := 122) (ro := none) (R := fun mM' => PM G mM' Y bs rphM_16 ln rghM_16 true hthM_16 adhM_16 hwhM_16 (aT bs ln (tkE bs ln (tkE bs ln (tkE bs ln e))), tkB bs ln (tkE bs ln (tkE bs ln (tkE bs ln e)))) (tkE bs ln (tkE bs ln (tkE bs ln e))) ∧ sm mhM_16 mM' 49 49) (st := []) (st1 := []) (As := []) (b := 49) O dX7_readLine_119 ul_X7_91 um_X7_step (f_X7_step1 hW ⟨hR0.1, hR0.2.1, hR0.2.2.1, hR0.2.2.2.1, hR0.2.2.2.2⟩ hln hbs (by omega) (fun M' h1 h2 => ⟨rfl, h1, h2⟩)) rfl (by omega) hR0.1 rfl rfl rfl rfl (by omega) (Nat.le_of_ble_eq_true rfl) rfl (fun mhM_20 hM_20 => ?_)
                  obtain ⟨⟨bahM_20, sphM_20, hehM_20, tkhM_20, vahM_20, hRhM_20, hLhM_20, he9hM_20⟩, hshM_20⟩ := hM_20
                  obtain ⟨hl1hM_20, hl2hM_20, hl3hM_20, hl4hM_20, hl5hM_20, hl6hM_20, hl7hM_20⟩ := id hLhM_20
                  refine w_vret O dX7_readLine_122 ?_
                  have hz0 := (orF_z c_17).1
                  have eF : orF (fLin bs ln Z (tkS bs ln e) (tkB bs ln e) (tkE bs ln e)) (aTB bs ln (eLin bs ln (tkS bs ln e) (tkB bs ln e) (tkE bs ln e))) = aTB bs ln (tkE bs ln (tkE bs ln (tkE bs ln e))) := by rw [eL1, eL2]; exact fin_2 hz0 (by omega)
                  exact hQ _ _ _ _ _ _ _ (by rw [eF, eL2]; exact ⟨_, _, _, _, _, ⟨hRhM_20.1, hRhM_20.2.1, hRhM_20.2.2.1, hRhM_20.2.2.2.1, hRhM_20.2.2.2.2⟩, hLhM_20, he9hM_20⟩) (fun _ => by rw [eL3]; exact hZhM_16 c_17) ((((sm2.rf.up (by omega)).tr (sm.l hshM_7)).tr hshM_16).tr (sm.l hshM_20))
                · skip
                  refine w_aload_n (n := 114) O dX7_readLine_113 rfl rfl rfl ?_
                  refine w_iconst (n := 115) O dX7_readLine_114 (v := (nI 2)) (by decide) rfl ?_
                  refine w_cV (n := 118) (ro := none) (R := fun mM' => isR G mM' Y bs rphM_16 ln rghM_16 true hthM_16 adhM_16 hwhM_16 2 (tkB bs ln (tkE bs ln (tkE bs ln e))) (tkE bs ln (tkE bs ln (tkE bs ln e))) (tkB bs ln (tkE bs ln (tkE bs ln e))) tkhM_16 vahM_16 ∧ sm mhM_16 mM' 49 49) (st := []) (st1 := []) (As := [.int (nI 2)]) (b := 49) O dX7_readLine_115 ul_X7_87 um_X7_fails (f_X7_fails hW ⟨hR0.1, hR0.2.1, hR0.2.2.1, hR0.2.2.2.1, hR0.2.2.2.2⟩ hln hbs (fun M' h1 h2 => ⟨rfl, h1, h2⟩)) rfl (by omega) hR0.1 rfl rfl rfl rfl (by omega) (Nat.le_of_ble_eq_true rfl) rfl (fun mhM_21 hM_21 => ?_)
                  obtain ⟨hRhM_21, hshM_21⟩ := hM_21
                  refine w_aload_n (n := 119) O dX7_readLine_118 rfl rfl rfl ?_
                  refine w_cV (n := 122) (ro := none) (R := fun mM' => mhM_21 = mM') (st := []) (st1 := []) (As := []) (b := 49) O dX7_readLine_119 ul_X7_91 um_X7_step (f_X7_step0 hW ⟨hRhM_21.1, hRhM_21.2.1, hRhM_21.2.2.1, hRhM_21.2.2.2.1, hRhM_21.2.2.2.2⟩ hln hbs (by decide) (by omega) ⟨rfl, rfl⟩) rfl (by omega) hRhM_21.1 rfl rfl rfl rfl (by omega) (Nat.le_of_ble_eq_true rfl) rfl (fun mhM_22 hM_22 => ?_)
                  subst hM_22
                  refine w_vret O dX7_readLine_122 ?_
                  have hz0 := (orF_z c_17).1
                  obtain ⟨f1, f2⟩ := fin_3 (X := aTB bs ln (tkE bs ln (tkE bs ln (tkE bs ln e)))) hz0 (by omega) (show ¬ tkS bs ln (tkE bs ln (tkE bs ln e)) = 4 by omega)
                  have eF : orF (fLin bs ln Z (tkS bs ln e) (tkB bs ln e) (tkE bs ln e)) (aTB bs ln (eLin bs ln (tkS bs ln e) (tkB bs ln e) (tkE bs ln e))) = (2, tkB bs ln (tkE bs ln (tkE bs ln e))) := by rw [eL1, eL2]; exact f1
                  exact hQ _ _ _ _ _ _ _ (by rw [eF, eL2]; exact ⟨_, _, _, _, _, ⟨hRhM_21.1, hRhM_21.2.1, hRhM_21.2.2.1, hRhM_21.2.2.2.1, hRhM_21.2.2.2.2⟩, ⟨hl1hM_16, hl2hM_16, hl3hM_16, hl4hM_16, (show 2 ≤ 6 by decide), (fun _ => rfl), (fun z => absurd z (show ¬ 2 = 0 by decide))⟩, tkE_le he9hM_16⟩) (fun z => absurd z (by rw [eL1]; exact f2)) ((((sm2.rf.up (by omega)).tr (sm.l hshM_7)).tr hshM_16).tr (sm.l hshM_21))
            · skip
              subst hn
              refine w_cV (n := 98) (ro := none) (R := fun mM' => ∃ q1 q2 q3 q4 q5, PM G mM' Y bs q1 ln q2 true q3 q4 q5 (orF (fHol bs ln Z (tkE bs ln e)) (aTB bs ln (tkE bs ln (tkE bs ln (tkE bs ln e))))) (tkE bs ln (tkE bs ln (tkE bs ln e))) ∧ ((orF (fHol bs ln Z (tkE bs ln e)) (aTB bs ln (tkE bs ln (tkE bs ln (tkE bs ln e))))).1 = 0 → ZR q1 q2 true q3 q4 q5 (uHol bs ln Z (tkE bs ln e))) ∧ sm2 mhM_7 mM' 49 49 51 51) (st := []) (st1 := []) (As := [.int (nI 5)]) (b := 49) O dX7_readLine_95 ul_X7_127 um_X7_readMore (f_X7_rmH hW ⟨_, _, _, _, _, ⟨hRhM_7.1, hRhM_7.2.1, hRhM_7.2.2.1, hRhM_7.2.2.2.1, hRhM_7.2.2.2.2⟩, hLhM_7, he9hM_7⟩ hln hbs c_8 ⟨hz1, hz2, c_6.symm.trans hz3, hz4, hz5, hz6⟩ hok (fun M' q1 q2 q3 q4 q5 h1 h2 h3 => ⟨rfl, q1, q2, q3, q4, q5, h1, h2, h3⟩)) rfl (by omega) hRhM_7.1 rfl rfl rfl rfl (by omega) (Nat.le_of_ble_eq_true rfl) rfl (fun mhM_23 hM_23 => ?_)
              obtain ⟨rphM_23, rghM_23, hthM_23, adhM_23, hwhM_23, hPhM_23, hZhM_23, hshM_23⟩ := hM_23
              obtain ⟨bahM_23, sphM_23, hehM_23, tkhM_23, vahM_23, hRhM_23, hLhM_23, he9hM_23⟩ := hPhM_23
              obtain ⟨hl1hM_23, hl2hM_23, hl3hM_23, hl4hM_23, hl5hM_23, hl6hM_23, hl7hM_23⟩ := id hLhM_23
              obtain ⟨eL1, eL2, eL3⟩ := lin_H (ln := ln) (Z := Z) hW9
              refine w_aload_n (n := 99) O dX7_readLine_98 rfl rfl rfl ?_
              refine w_getf (n := 102) O 11 dX7_readLine_99 (by omega) hRhM_23.1 rfl (by decide) uX7 uf_X7_57 rfl rfl ?_
              refine w_if_neN (n := 105) (tgt := 118) O dX7_readLine_102 (by omega) (by decide) rfl (fun c_24 => ?_) (fun c_24 => ?_)
              · skip
                refine w_aload_n (n := 119) O dX7_readLine_118 rfl rfl rfl ?_
                refine w_cV (n := 122) (ro := none) (R := fun mM' => mhM_23 = mM') (st := []) (st1 := []) (As := []) (b := 49) O dX7_readLine_119 ul_X7_91 um_X7_step (f_X7_step0 hW ⟨hRhM_23.1, hRhM_23.2.1, hRhM_23.2.2.1, hRhM_23.2.2.2.1, hRhM_23.2.2.2.2⟩ hln hbs c_24 (by omega) ⟨rfl, rfl⟩) rfl (by omega) hRhM_23.1 rfl rfl rfl rfl (by omega) (Nat.le_of_ble_eq_true rfl) rfl (fun mhM_25 hM_25 => ?_)
                subst hM_25
                refine w_vret O dX7_readLine_122 ?_
                obtain ⟨f1, f2⟩ := fin_1 (X := aTB bs ln (tkE bs ln (tkE bs ln (tkE bs ln (tkE bs ln e))))) c_24
                have eF : orF (fLin bs ln Z (tkS bs ln e) (tkB bs ln e) (tkE bs ln e)) (aTB bs ln (eLin bs ln (tkS bs ln e) (tkB bs ln e) (tkE bs ln e))) = orF (fHol bs ln Z (tkE bs ln e)) (aTB bs ln (tkE bs ln (tkE bs ln (tkE bs ln e)))) := by rw [eL1, eL2]; exact f1
                exact hQ _ _ _ _ _ _ _ (by rw [eF, eL2]; exact ⟨_, _, _, _, _, ⟨hRhM_23.1, hRhM_23.2.1, hRhM_23.2.2.1, hRhM_23.2.2.2.1, hRhM_23.2.2.2.2⟩, ⟨hl1hM_23, hl2hM_23, hl3hM_23, hl4hM_23, hl5hM_23, hl6hM_23, fun z => absurd z c_24⟩, tkE_le he9hM_23⟩) (fun z => absurd z (by rw [eL1]; exact f2)) (((sm2.rf.up (by omega)).tr (sm.l hshM_7)).tr hshM_23)
              · skip
                obtain ⟨q1, q2, q3, q4⟩ := hl7hM_23 c_24
                subst q1
                subst q2
                have hR0 := hRhM_23
                rw [c_24] at hR0
                have hq4 := tkS_le bs ln (tkE bs ln (tkE bs ln (tkE bs ln e)))
                refine w_aload_n (n := 106) O dX7_readLine_105 rfl rfl rfl ?_
                refine w_getf (n := 109) O 15 dX7_readLine_106 (by omega) hR0.1 rfl (by decide) uX7 uf_X7_66 rfl rfl ?_
                refine w_iconst (n := 110) O dX7_readLine_109 (v := (nI 3)) (by decide) rfl ?_
                refine w_icmp_eqN (n := 113) (tgt := 118) O dX7_readLine_110 (by omega) (by omega) (by decide) rfl (fun c_26 => ?_) (fun c_26 => ?_)
                · skip
                  refine w_aload_n (n := 119) O dX7_readLine_118 rfl rfl rfl ?_
                  refine w_cV (n := 122) (ro := none) (R := fun mM' => PM G mM' Y bs rphM_23 ln rghM_23 true hthM_23 adhM_23 hwhM_23 (aT bs ln (tkE bs ln (tkE bs ln (tkE bs ln (tkE bs ln e)))), tkB bs ln (tkE bs ln (tkE bs ln (tkE bs ln (tkE bs ln e))))) (tkE bs ln (tkE bs ln (tkE bs ln (tkE bs ln e)))) ∧ sm mhM_23 mM' 49 49) (st := []) (st1 := []) (As := []) (b := 49) O dX7_readLine_119 ul_X7_91 um_X7_step (f_X7_step1 hW ⟨hR0.1, hR0.2.1, hR0.2.2.1, hR0.2.2.2.1, hR0.2.2.2.2⟩ hln hbs (by omega) (fun M' h1 h2 => ⟨rfl, h1, h2⟩)) rfl (by omega) hR0.1 rfl rfl rfl rfl (by omega) (Nat.le_of_ble_eq_true rfl) rfl (fun mhM_27 hM_27 => ?_)
                  obtain ⟨⟨bahM_27, sphM_27, hehM_27, tkhM_27, vahM_27, hRhM_27, hLhM_27, he9hM_27⟩, hshM_27⟩ := hM_27
                  obtain ⟨hl1hM_27, hl2hM_27, hl3hM_27, hl4hM_27, hl5hM_27, hl6hM_27, hl7hM_27⟩ := id hLhM_27
                  refine w_vret O dX7_readLine_122 ?_
                  have hz0 := (orF_z c_24).1
                  have eF : orF (fLin bs ln Z (tkS bs ln e) (tkB bs ln e) (tkE bs ln e)) (aTB bs ln (eLin bs ln (tkS bs ln e) (tkB bs ln e) (tkE bs ln e))) = aTB bs ln (tkE bs ln (tkE bs ln (tkE bs ln (tkE bs ln e)))) := by rw [eL1, eL2]; exact fin_2 hz0 (by omega)
                  exact hQ _ _ _ _ _ _ _ (by rw [eF, eL2]; exact ⟨_, _, _, _, _, ⟨hRhM_27.1, hRhM_27.2.1, hRhM_27.2.2.1, hRhM_27.2.2.2.1, hRhM_27.2.2.2.2⟩, hLhM_27, he9hM_27⟩) (fun _ => by rw [eL3]; exact hZhM_23 c_24) ((((sm2.rf.up (by omega)).tr (sm.l hshM_7)).tr hshM_23).tr (sm.l hshM_27))
                · skip
                  refine w_aload_n (n := 114) O dX7_readLine_113 rfl rfl rfl ?_
                  refine w_iconst (n := 115) O dX7_readLine_114 (v := (nI 2)) (by decide) rfl ?_
                  refine w_cV (n := 118) (ro := none) (R := fun mM' => isR G mM' Y bs rphM_23 ln rghM_23 true hthM_23 adhM_23 hwhM_23 2 (tkB bs ln (tkE bs ln (tkE bs ln (tkE bs ln e)))) (tkE bs ln (tkE bs ln (tkE bs ln (tkE bs ln e)))) (tkB bs ln (tkE bs ln (tkE bs ln (tkE bs ln e)))) tkhM_23 vahM_23 ∧ sm mhM_23 mM' 49 49) (st := []) (st1 := []) (As := [.int (nI 2)]) (b := 49) O dX7_readLine_115 ul_X7_87 um_X7_fails (f_X7_fails hW ⟨hR0.1, hR0.2.1, hR0.2.2.1, hR0.2.2.2.1, hR0.2.2.2.2⟩ hln hbs (fun M' h1 h2 => ⟨rfl, h1, h2⟩)) rfl (by omega) hR0.1 rfl rfl rfl rfl (by omega) (Nat.le_of_ble_eq_true rfl) rfl (fun mhM_28 hM_28 => ?_)
                  obtain ⟨hRhM_28, hshM_28⟩ := hM_28
                  refine w_aload_n (n := 119) O dX7_readLine_118 rfl rfl rfl ?_
                  refine w_cV (n := 122) (ro := none) (R := fun mM' => mhM_28 = mM') (st := []) (st1 := []) (As := []) (b := 49) O dX7_readLine_119 ul_X7_91 um_X7_step (f_X7_step0 hW ⟨hRhM_28.1, hRhM_28.2.1, hRhM_28.2.2.1, hRhM_28.2.2.2.1, hRhM_28.2.2.2.2⟩ hln hbs (by decide) (by omega) ⟨rfl, rfl⟩) rfl (by omega) hRhM_28.1 rfl rfl rfl rfl (by omega) (Nat.le_of_ble_eq_true rfl) rfl (fun mhM_29 hM_29 => ?_)
                  subst hM_29
                  refine w_vret O dX7_readLine_122 ?_
                  have hz0 := (orF_z c_24).1
                  obtain ⟨f1, f2⟩ := fin_3 (X := aTB bs ln (tkE bs ln (tkE bs ln (tkE bs ln (tkE bs ln e))))) hz0 (by omega) (show ¬ tkS bs ln (tkE bs ln (tkE bs ln (tkE bs ln e))) = 4 by omega)
                  have eF : orF (fLin bs ln Z (tkS bs ln e) (tkB bs ln e) (tkE bs ln e)) (aTB bs ln (eLin bs ln (tkS bs ln e) (tkB bs ln e) (tkE bs ln e))) = (2, tkB bs ln (tkE bs ln (tkE bs ln (tkE bs ln e)))) := by rw [eL1, eL2]; exact f1
                  exact hQ _ _ _ _ _ _ _ (by rw [eF, eL2]; exact ⟨_, _, _, _, _, ⟨hRhM_28.1, hRhM_28.2.1, hRhM_28.2.2.1, hRhM_28.2.2.2.1, hRhM_28.2.2.2.2⟩, ⟨hl1hM_23, hl2hM_23, hl3hM_23, hl4hM_23, (show 2 ≤ 6 by decide), (fun _ => rfl), (fun z => absurd z (show ¬ 2 = 0 by decide))⟩, tkE_le he9hM_23⟩) (fun z => absurd z (by rw [eL1]; exact f2)) ((((sm2.rf.up (by omega)).tr (sm.l hshM_7)).tr hshM_23).tr (sm.l hshM_28))
            · skip
              subst hn
              refine w_cV (n := 98) (ro := none) (R := fun mM' => ∃ q1 q2 q3 q4 q5, PM G mM' Y bs q1 ln q2 true q3 q4 q5 (orF (fAdd bs ln Z (tkE bs ln e)) (aTB bs ln (tkE bs ln (tkE bs ln (tkE bs ln e))))) (tkE bs ln (tkE bs ln (tkE bs ln e))) ∧ ((orF (fAdd bs ln Z (tkE bs ln e)) (aTB bs ln (tkE bs ln (tkE bs ln (tkE bs ln e))))).1 = 0 → ZR q1 q2 true q3 q4 q5 (uAdd bs ln Z (tkE bs ln e))) ∧ sm2 mhM_7 mM' 49 49 51 51) (st := []) (st1 := []) (As := [.int (nI 6)]) (b := 49) O dX7_readLine_95 ul_X7_127 um_X7_readMore (f_X7_rmA hW ⟨_, _, _, _, _, ⟨hRhM_7.1, hRhM_7.2.1, hRhM_7.2.2.1, hRhM_7.2.2.2.1, hRhM_7.2.2.2.2⟩, hLhM_7, he9hM_7⟩ hln hbs c_8 ⟨hz1, hz2, c_6.symm.trans hz3, hz4, hz5, hz6⟩ hok (fun M' q1 q2 q3 q4 q5 h1 h2 h3 => ⟨rfl, q1, q2, q3, q4, q5, h1, h2, h3⟩)) rfl (by omega) hRhM_7.1 rfl rfl rfl rfl (by omega) (Nat.le_of_ble_eq_true rfl) rfl (fun mhM_30 hM_30 => ?_)
              obtain ⟨rphM_30, rghM_30, hthM_30, adhM_30, hwhM_30, hPhM_30, hZhM_30, hshM_30⟩ := hM_30
              obtain ⟨bahM_30, sphM_30, hehM_30, tkhM_30, vahM_30, hRhM_30, hLhM_30, he9hM_30⟩ := hPhM_30
              obtain ⟨hl1hM_30, hl2hM_30, hl3hM_30, hl4hM_30, hl5hM_30, hl6hM_30, hl7hM_30⟩ := id hLhM_30
              obtain ⟨eL1, eL2, eL3⟩ := lin_A (ln := ln) (Z := Z) hW9
              refine w_aload_n (n := 99) O dX7_readLine_98 rfl rfl rfl ?_
              refine w_getf (n := 102) O 11 dX7_readLine_99 (by omega) hRhM_30.1 rfl (by decide) uX7 uf_X7_57 rfl rfl ?_
              refine w_if_neN (n := 105) (tgt := 118) O dX7_readLine_102 (by omega) (by decide) rfl (fun c_31 => ?_) (fun c_31 => ?_)
              · skip
                refine w_aload_n (n := 119) O dX7_readLine_118 rfl rfl rfl ?_
                refine w_cV (n := 122) (ro := none) (R := fun mM' => mhM_30 = mM') (st := []) (st1 := []) (As := []) (b := 49) O dX7_readLine_119 ul_X7_91 um_X7_step (f_X7_step0 hW ⟨hRhM_30.1, hRhM_30.2.1, hRhM_30.2.2.1, hRhM_30.2.2.2.1, hRhM_30.2.2.2.2⟩ hln hbs c_31 (by omega) ⟨rfl, rfl⟩) rfl (by omega) hRhM_30.1 rfl rfl rfl rfl (by omega) (Nat.le_of_ble_eq_true rfl) rfl (fun mhM_32 hM_32 => ?_)
                subst hM_32
                refine w_vret O dX7_readLine_122 ?_
                obtain ⟨f1, f2⟩ := fin_1 (X := aTB bs ln (tkE bs ln (tkE bs ln (tkE bs ln (tkE bs ln e))))) c_31
                have eF : orF (fLin bs ln Z (tkS bs ln e) (tkB bs ln e) (tkE bs ln e)) (aTB bs ln (eLin bs ln (tkS bs ln e) (tkB bs ln e) (tkE bs ln e))) = orF (fAdd bs ln Z (tkE bs ln e)) (aTB bs ln (tkE bs ln (tkE bs ln (tkE bs ln e)))) := by rw [eL1, eL2]; exact f1
                exact hQ _ _ _ _ _ _ _ (by rw [eF, eL2]; exact ⟨_, _, _, _, _, ⟨hRhM_30.1, hRhM_30.2.1, hRhM_30.2.2.1, hRhM_30.2.2.2.1, hRhM_30.2.2.2.2⟩, ⟨hl1hM_30, hl2hM_30, hl3hM_30, hl4hM_30, hl5hM_30, hl6hM_30, fun z => absurd z c_31⟩, tkE_le he9hM_30⟩) (fun z => absurd z (by rw [eL1]; exact f2)) (((sm2.rf.up (by omega)).tr (sm.l hshM_7)).tr hshM_30)
              · skip
                obtain ⟨q1, q2, q3, q4⟩ := hl7hM_30 c_31
                subst q1
                subst q2
                have hR0 := hRhM_30
                rw [c_31] at hR0
                have hq4 := tkS_le bs ln (tkE bs ln (tkE bs ln (tkE bs ln e)))
                refine w_aload_n (n := 106) O dX7_readLine_105 rfl rfl rfl ?_
                refine w_getf (n := 109) O 15 dX7_readLine_106 (by omega) hR0.1 rfl (by decide) uX7 uf_X7_66 rfl rfl ?_
                refine w_iconst (n := 110) O dX7_readLine_109 (v := (nI 3)) (by decide) rfl ?_
                refine w_icmp_eqN (n := 113) (tgt := 118) O dX7_readLine_110 (by omega) (by omega) (by decide) rfl (fun c_33 => ?_) (fun c_33 => ?_)
                · skip
                  refine w_aload_n (n := 119) O dX7_readLine_118 rfl rfl rfl ?_
                  refine w_cV (n := 122) (ro := none) (R := fun mM' => PM G mM' Y bs rphM_30 ln rghM_30 true hthM_30 adhM_30 hwhM_30 (aT bs ln (tkE bs ln (tkE bs ln (tkE bs ln (tkE bs ln e)))), tkB bs ln (tkE bs ln (tkE bs ln (tkE bs ln (tkE bs ln e))))) (tkE bs ln (tkE bs ln (tkE bs ln (tkE bs ln e)))) ∧ sm mhM_30 mM' 49 49) (st := []) (st1 := []) (As := []) (b := 49) O dX7_readLine_119 ul_X7_91 um_X7_step (f_X7_step1 hW ⟨hR0.1, hR0.2.1, hR0.2.2.1, hR0.2.2.2.1, hR0.2.2.2.2⟩ hln hbs (by omega) (fun M' h1 h2 => ⟨rfl, h1, h2⟩)) rfl (by omega) hR0.1 rfl rfl rfl rfl (by omega) (Nat.le_of_ble_eq_true rfl) rfl (fun mhM_34 hM_34 => ?_)
                  obtain ⟨⟨bahM_34, sphM_34, hehM_34, tkhM_34, vahM_34, hRhM_34, hLhM_34, he9hM_34⟩, hshM_34⟩ := hM_34
                  obtain ⟨hl1hM_34, hl2hM_34, hl3hM_34, hl4hM_34, hl5hM_34, hl6hM_34, hl7hM_34⟩ := id hLhM_34
                  refine w_vret O dX7_readLine_122 ?_
                  have hz0 := (orF_z c_31).1
                  have eF : orF (fLin bs ln Z (tkS bs ln e) (tkB bs ln e) (tkE bs ln e)) (aTB bs ln (eLin bs ln (tkS bs ln e) (tkB bs ln e) (tkE bs ln e))) = aTB bs ln (tkE bs ln (tkE bs ln (tkE bs ln (tkE bs ln e)))) := by rw [eL1, eL2]; exact fin_2 hz0 (by omega)
                  exact hQ _ _ _ _ _ _ _ (by rw [eF, eL2]; exact ⟨_, _, _, _, _, ⟨hRhM_34.1, hRhM_34.2.1, hRhM_34.2.2.1, hRhM_34.2.2.2.1, hRhM_34.2.2.2.2⟩, hLhM_34, he9hM_34⟩) (fun _ => by rw [eL3]; exact hZhM_30 c_31) ((((sm2.rf.up (by omega)).tr (sm.l hshM_7)).tr hshM_30).tr (sm.l hshM_34))
                · skip
                  refine w_aload_n (n := 114) O dX7_readLine_113 rfl rfl rfl ?_
                  refine w_iconst (n := 115) O dX7_readLine_114 (v := (nI 2)) (by decide) rfl ?_
                  refine w_cV (n := 118) (ro := none) (R := fun mM' => isR G mM' Y bs rphM_30 ln rghM_30 true hthM_30 adhM_30 hwhM_30 2 (tkB bs ln (tkE bs ln (tkE bs ln (tkE bs ln e)))) (tkE bs ln (tkE bs ln (tkE bs ln (tkE bs ln e)))) (tkB bs ln (tkE bs ln (tkE bs ln (tkE bs ln e)))) tkhM_30 vahM_30 ∧ sm mhM_30 mM' 49 49) (st := []) (st1 := []) (As := [.int (nI 2)]) (b := 49) O dX7_readLine_115 ul_X7_87 um_X7_fails (f_X7_fails hW ⟨hR0.1, hR0.2.1, hR0.2.2.1, hR0.2.2.2.1, hR0.2.2.2.2⟩ hln hbs (fun M' h1 h2 => ⟨rfl, h1, h2⟩)) rfl (by omega) hR0.1 rfl rfl rfl rfl (by omega) (Nat.le_of_ble_eq_true rfl) rfl (fun mhM_35 hM_35 => ?_)
                  obtain ⟨hRhM_35, hshM_35⟩ := hM_35
                  refine w_aload_n (n := 119) O dX7_readLine_118 rfl rfl rfl ?_
                  refine w_cV (n := 122) (ro := none) (R := fun mM' => mhM_35 = mM') (st := []) (st1 := []) (As := []) (b := 49) O dX7_readLine_119 ul_X7_91 um_X7_step (f_X7_step0 hW ⟨hRhM_35.1, hRhM_35.2.1, hRhM_35.2.2.1, hRhM_35.2.2.2.1, hRhM_35.2.2.2.2⟩ hln hbs (by decide) (by omega) ⟨rfl, rfl⟩) rfl (by omega) hRhM_35.1 rfl rfl rfl rfl (by omega) (Nat.le_of_ble_eq_true rfl) rfl (fun mhM_36 hM_36 => ?_)
                  subst hM_36
                  refine w_vret O dX7_readLine_122 ?_
                  have hz0 := (orF_z c_31).1
                  obtain ⟨f1, f2⟩ := fin_3 (X := aTB bs ln (tkE bs ln (tkE bs ln (tkE bs ln (tkE bs ln e))))) hz0 (by omega) (show ¬ tkS bs ln (tkE bs ln (tkE bs ln (tkE bs ln e))) = 4 by omega)
                  have eF : orF (fLin bs ln Z (tkS bs ln e) (tkB bs ln e) (tkE bs ln e)) (aTB bs ln (eLin bs ln (tkS bs ln e) (tkB bs ln e) (tkE bs ln e))) = (2, tkB bs ln (tkE bs ln (tkE bs ln (tkE bs ln e)))) := by rw [eL1, eL2]; exact f1
                  exact hQ _ _ _ _ _ _ _ (by rw [eF, eL2]; exact ⟨_, _, _, _, _, ⟨hRhM_35.1, hRhM_35.2.1, hRhM_35.2.2.1, hRhM_35.2.2.2.1, hRhM_35.2.2.2.2⟩, ⟨hl1hM_30, hl2hM_30, hl3hM_30, hl4hM_30, (show 2 ≤ 6 by decide), (fun _ => rfl), (fun z => absurd z (show ¬ 2 = 0 by decide))⟩, tkE_le he9hM_30⟩) (fun z => absurd z (by rw [eL1]; exact f2)) ((((sm2.rf.up (by omega)).tr (sm.l hshM_7)).tr hshM_30).tr (sm.l hshM_35))
            · skip
              omega
          · skip
            refine w_vret O dX7_readLine_92 ?_
            obtain ⟨ha1, ha2⟩ := aT_1 (bs := bs) (ln := ln) (p := tkE bs ln e) (by omega)
            have hRz := hRhM_7
            rw [show (aT bs ln (tkE bs ln e), tkB bs ln (tkE bs ln e)).1 = 1 from ha1] at hRz
            have eL : fLin bs ln Z (tkS bs ln e) (tkB bs ln e) (tkE bs ln e) = (1, tkB bs ln (tkE bs ln e)) := lin_lex hn7 hW9 (fun z => by omega) (fun z => absurd z (by omega)) ha2
            have eF : orF (fLin bs ln Z (tkS bs ln e) (tkB bs ln e) (tkE bs ln e)) (aTB bs ln (eLin bs ln (tkS bs ln e) (tkB bs ln e) (tkE bs ln e))) = (1, tkB bs ln (tkE bs ln e)) := by rw [eL]; rfl
            exact hQ _ _ _ _ _ _ _ (by rw [eF]; exact ⟨_, _, _, _, _, hRz, ⟨hl1hM_7, hl2hM_7, hl3hM_7, hl4hM_7, (show 1 ≤ 6 by decide), (fun _ => hl6hM_7 (show ¬ aT bs ln (tkE bs ln e) = 0 by omega)), (fun z => absurd z (show ¬ 1 = 0 by decide))⟩, eLin_le _ _ hE2⟩) (fun z => absurd z (by rw [eL]; exact (show ¬ 1 = 0 by decide))) ((sm2.rf.up (by omega)).tr (sm.l hshM_7))
        · skip
          refine w_iload_n (n := 68) O dX7_readLine_67 rfl rfl rfl ?_
          refine w_bipush (n := 70) O dX7_readLine_68 (v := (nI 7)) (by decide) rfl ?_
          refine w_icmp_neN (n := 73) (tgt := 77) O dX7_readLine_70 (by omega) (by omega) (by decide) rfl (fun c_37 => ?_) (fun c_37 => by omega)
          refine w_iconst (n := 78) O dX7_readLine_77 (v := (nI 0)) (by decide) rfl ?_
          refine w_top (bI false) (by decide) ?_
          refine w_putf (n := 81) (fs' := [.ref (gb_ad G 50), .int (Y 1), .ref (gb_ad G 51), .int (nI (rg)), .int (bI (false)), .int (nI (ht)), .int (nI (ad)), .int (dI hw), .ref (gb_ad G 52), .int (nI (ln)), .int (Y 10), .int (nI 0), .int (nI (ba)), .int (nI (tkE bs ln e)), .int (nI (tkB bs ln e)), .int (nI (tk)), .int (nI (va)), .ref (gb_ad G 53), .ref (gb_ad G 54), .int (Y 19), .int (Y 20), .int (Y 21), .int (Y 22), .ref (gb_ad G 55), .int (Y 24), .ref (gb_ad G 56), .int (Y 26), .ref (gb_ad G 57), .ref (gb_ad G 58), .ref (gb_ad G 59), .ref (gb_ad G 60), .int (Y 31)]) O 4 dX7_readLine_78 (by omega) hR.1 rfl (by decide) uX7 uf_X7_123 tyX7 tyX7_ok nmX7 rfl (bI_nar _) (bI_fit _) (Nat.le_of_ble_eq_true rfl) rfl rfl ?_
          refine w_aload_n (n := 82) O dX7_readLine_81 rfl rfl rfl ?_
          refine w_cV (n := 85) (ro := none) (R := fun mM' => PM G mM' Y bs rp ln rg false ht ad hw (aT bs ln (tkE bs ln e), tkB bs ln (tkE bs ln e)) (tkE bs ln e) ∧ sm (va_up mM (49) (.inr (7, [.ref (gb_ad G 50), .int (Y 1), .ref (gb_ad G 51), .int (nI (rg)), .int (bI (false)), .int (nI (ht)), .int (nI (ad)), .int (dI hw), .ref (gb_ad G 52), .int (nI (ln)), .int (Y 10), .int (nI 0), .int (nI (ba)), .int (nI (tkE bs ln e)), .int (nI (tkB bs ln e)), .int (nI (tk)), .int (nI (va)), .ref (gb_ad G 53), .ref (gb_ad G 54), .int (Y 19), .int (Y 20), .int (Y 21), .int (Y 22), .ref (gb_ad G 55), .int (Y 24), .ref (gb_ad G 56), .int (Y 26), .ref (gb_ad G 57), .ref (gb_ad G 58), .ref (gb_ad G 59), .ref (gb_ad G 60), .int (Y 31)]))) mM' 49 49) (st := []) (st1 := []) (As := []) (b := 49) O dX7_readLine_82 ul_X7_91 um_X7_step (f_X7_step1 hW ⟨(va_up_self _ _ _), ((va_up_ne _ _ (by decide)).trans hR.2.1), ((va_up_ne _ _ (by decide)).trans hR.2.2.1), ((va_up_ne _ _ (by decide)).trans hR.2.2.2.1), ((va_up_ne _ _ (by decide)).trans hR.2.2.2.2)⟩ hln hbs (by omega) (fun M' h1 h2 => ⟨rfl, h1, h2⟩)) rfl (by omega) (va_up_self _ _ _) rfl rfl rfl rfl (by omega) (Nat.le_of_ble_eq_true rfl) rfl (fun mhM_38 hM_38 => ?_)
          obtain ⟨⟨bahM_38, sphM_38, hehM_38, tkhM_38, vahM_38, hRhM_38, hLhM_38, he9hM_38⟩, hshM_38⟩ := hM_38
          obtain ⟨hl1hM_38, hl2hM_38, hl3hM_38, hl4hM_38, hl5hM_38, hl6hM_38, hl7hM_38⟩ := id hLhM_38
          have hat := aT_le bs ln (tkE bs ln e)
          refine w_aload_n (n := 86) O dX7_readLine_85 rfl rfl rfl ?_
          refine w_getf (n := 89) O 11 dX7_readLine_86 (by omega) hRhM_38.1 rfl (by decide) uX7 uf_X7_57 rfl rfl ?_
          refine w_if_leN (n := 92) (tgt := 93) O dX7_readLine_89 (by omega) (by decide) rfl (fun c_39 => ?_) (fun c_39 => ?_)
          · skip
            refine w_aload_n (n := 94) O dX7_readLine_93 rfl rfl rfl ?_
            refine w_iload_n (n := 95) O dX7_readLine_94 rfl rfl rfl ?_
            rcases (show n ≤ 3 ∨ n = 4 ∨ n = 5 ∨ n = 6 ∨ n = 7 by omega) with hn | hn | hn | hn | hn
            · skip
              refine w_cV (n := 98) (ro := none) (R := fun mM' => ∃ q1 q2 q3 q4 q5, PM G mM' Y bs q1 ln q2 false q3 q4 q5 (orF (orF (aM bs ln 3 (tkE bs ln e), tkB bs ln (tkE bs ln e)) (orF (aN bs ln 0 9 (tkE bs ln (tkE bs ln e)), tkB bs ln (tkE bs ln (tkE bs ln e))) (aN bs ln 0 3 (tkE bs ln (tkE bs ln (tkE bs ln e))), tkB bs ln (tkE bs ln (tkE bs ln (tkE bs ln e)))))) (aTB bs ln (tkE bs ln (tkE bs ln (tkE bs ln (tkE bs ln e)))))) (tkE bs ln (tkE bs ln (tkE bs ln (tkE bs ln e)))) ∧ ((orF (orF (aM bs ln 3 (tkE bs ln e), tkB bs ln (tkE bs ln e)) (orF (aN bs ln 0 9 (tkE bs ln (tkE bs ln e)), tkB bs ln (tkE bs ln (tkE bs ln e))) (aN bs ln 0 3 (tkE bs ln (tkE bs ln (tkE bs ln e))), tkB bs ln (tkE bs ln (tkE bs ln (tkE bs ln e)))))) (aTB bs ln (tkE bs ln (tkE bs ln (tkE bs ln (tkE bs ln e)))))).1 = 0 → ZR q1 q2 false q3 q4 q5 (uGiv bs ln Z n (tkE bs ln e))) ∧ sm2 mhM_38 mM' 49 49 51 51) (st := []) (st1 := []) (As := [.int (nI (n))]) (b := 49) O dX7_readLine_95 ul_X7_127 um_X7_readMore (f_X7_rmK hW ⟨_, _, _, _, _, ⟨hRhM_38.1, hRhM_38.2.1, hRhM_38.2.2.1, hRhM_38.2.2.2.1, hRhM_38.2.2.2.2⟩, hLhM_38, he9hM_38⟩ hln hbs c_39 ⟨hz1, hz2, c_6.symm.trans hz3, hz4, hz5, hz6⟩ hok hn (by omega) (fun M' q1 q2 q3 q4 q5 h1 h2 h3 => ⟨rfl, q1, q2, q3, q4, q5, h1, h2, h3⟩)) rfl (by omega) hRhM_38.1 rfl rfl rfl rfl (by omega) (Nat.le_of_ble_eq_true rfl) rfl (fun mhM_40 hM_40 => ?_)
              obtain ⟨rphM_40, rghM_40, hthM_40, adhM_40, hwhM_40, hPhM_40, hZhM_40, hshM_40⟩ := hM_40
              obtain ⟨bahM_40, sphM_40, hehM_40, tkhM_40, vahM_40, hRhM_40, hLhM_40, he9hM_40⟩ := hPhM_40
              obtain ⟨hl1hM_40, hl2hM_40, hl3hM_40, hl4hM_40, hl5hM_40, hl6hM_40, hl7hM_40⟩ := id hLhM_40
              obtain ⟨eL1, eL2, eL3⟩ := lin_K (ln := ln) (Z := Z) (hW9.trans (show nmW (some n) = 0 from (show ∀ n, n ≤ 3 → nmW (some n) = 0 by decide) n hn)) (by omega)
              rw [hK9, show nmK (some n) = n from (show ∀ n, n ≤ 3 → nmK (some n) = n by decide) n hn] at eL3
              refine w_aload_n (n := 99) O dX7_readLine_98 rfl rfl rfl ?_
              refine w_getf (n := 102) O 11 dX7_readLine_99 (by omega) hRhM_40.1 rfl (by decide) uX7 uf_X7_57 rfl rfl ?_
              refine w_if_neN (n := 105) (tgt := 118) O dX7_readLine_102 (by omega) (by decide) rfl (fun c_41 => ?_) (fun c_41 => ?_)
              · skip
                refine w_aload_n (n := 119) O dX7_readLine_118 rfl rfl rfl ?_
                refine w_cV (n := 122) (ro := none) (R := fun mM' => mhM_40 = mM') (st := []) (st1 := []) (As := []) (b := 49) O dX7_readLine_119 ul_X7_91 um_X7_step (f_X7_step0 hW ⟨hRhM_40.1, hRhM_40.2.1, hRhM_40.2.2.1, hRhM_40.2.2.2.1, hRhM_40.2.2.2.2⟩ hln hbs c_41 (by omega) ⟨rfl, rfl⟩) rfl (by omega) hRhM_40.1 rfl rfl rfl rfl (by omega) (Nat.le_of_ble_eq_true rfl) rfl (fun mhM_42 hM_42 => ?_)
                subst hM_42
                refine w_vret O dX7_readLine_122 ?_
                obtain ⟨f1, f2⟩ := fin_1 (X := aTB bs ln (tkE bs ln (tkE bs ln (tkE bs ln (tkE bs ln (tkE bs ln e)))))) c_41
                have eF : orF (fLin bs ln Z (tkS bs ln e) (tkB bs ln e) (tkE bs ln e)) (aTB bs ln (eLin bs ln (tkS bs ln e) (tkB bs ln e) (tkE bs ln e))) = orF (orF (aM bs ln 3 (tkE bs ln e), tkB bs ln (tkE bs ln e)) (orF (aN bs ln 0 9 (tkE bs ln (tkE bs ln e)), tkB bs ln (tkE bs ln (tkE bs ln e))) (aN bs ln 0 3 (tkE bs ln (tkE bs ln (tkE bs ln e))), tkB bs ln (tkE bs ln (tkE bs ln (tkE bs ln e)))))) (aTB bs ln (tkE bs ln (tkE bs ln (tkE bs ln (tkE bs ln e))))) := by rw [eL1, eL2]; exact f1
                exact hQ _ _ _ _ _ _ _ (by rw [eF, eL2]; exact ⟨_, _, _, _, _, ⟨hRhM_40.1, hRhM_40.2.1, hRhM_40.2.2.1, hRhM_40.2.2.2.1, hRhM_40.2.2.2.2⟩, ⟨hl1hM_40, hl2hM_40, hl3hM_40, hl4hM_40, hl5hM_40, hl6hM_40, fun z => absurd z c_41⟩, tkE_le he9hM_40⟩) (fun z => absurd z (by rw [eL1]; exact f2)) (((sm2.rf.up (by omega)).tr (sm.l hshM_38)).tr hshM_40)
              · skip
                obtain ⟨q1, q2, q3, q4⟩ := hl7hM_40 c_41
                subst q1
                subst q2
                have hR0 := hRhM_40
                rw [c_41] at hR0
                have hq4 := tkS_le bs ln (tkE bs ln (tkE bs ln (tkE bs ln (tkE bs ln e))))
                refine w_aload_n (n := 106) O dX7_readLine_105 rfl rfl rfl ?_
                refine w_getf (n := 109) O 15 dX7_readLine_106 (by omega) hR0.1 rfl (by decide) uX7 uf_X7_66 rfl rfl ?_
                refine w_iconst (n := 110) O dX7_readLine_109 (v := (nI 3)) (by decide) rfl ?_
                refine w_icmp_eqN (n := 113) (tgt := 118) O dX7_readLine_110 (by omega) (by omega) (by decide) rfl (fun c_43 => ?_) (fun c_43 => ?_)
                · skip
                  refine w_aload_n (n := 119) O dX7_readLine_118 rfl rfl rfl ?_
                  refine w_cV (n := 122) (ro := none) (R := fun mM' => PM G mM' Y bs rphM_40 ln rghM_40 false hthM_40 adhM_40 hwhM_40 (aT bs ln (tkE bs ln (tkE bs ln (tkE bs ln (tkE bs ln (tkE bs ln e))))), tkB bs ln (tkE bs ln (tkE bs ln (tkE bs ln (tkE bs ln (tkE bs ln e)))))) (tkE bs ln (tkE bs ln (tkE bs ln (tkE bs ln (tkE bs ln e))))) ∧ sm mhM_40 mM' 49 49) (st := []) (st1 := []) (As := []) (b := 49) O dX7_readLine_119 ul_X7_91 um_X7_step (f_X7_step1 hW ⟨hR0.1, hR0.2.1, hR0.2.2.1, hR0.2.2.2.1, hR0.2.2.2.2⟩ hln hbs (by omega) (fun M' h1 h2 => ⟨rfl, h1, h2⟩)) rfl (by omega) hR0.1 rfl rfl rfl rfl (by omega) (Nat.le_of_ble_eq_true rfl) rfl (fun mhM_44 hM_44 => ?_)
                  obtain ⟨⟨bahM_44, sphM_44, hehM_44, tkhM_44, vahM_44, hRhM_44, hLhM_44, he9hM_44⟩, hshM_44⟩ := hM_44
                  obtain ⟨hl1hM_44, hl2hM_44, hl3hM_44, hl4hM_44, hl5hM_44, hl6hM_44, hl7hM_44⟩ := id hLhM_44
                  refine w_vret O dX7_readLine_122 ?_
                  have hz0 := (orF_z c_41).1
                  have eF : orF (fLin bs ln Z (tkS bs ln e) (tkB bs ln e) (tkE bs ln e)) (aTB bs ln (eLin bs ln (tkS bs ln e) (tkB bs ln e) (tkE bs ln e))) = aTB bs ln (tkE bs ln (tkE bs ln (tkE bs ln (tkE bs ln (tkE bs ln e))))) := by rw [eL1, eL2]; exact fin_2 hz0 (by omega)
                  exact hQ _ _ _ _ _ _ _ (by rw [eF, eL2]; exact ⟨_, _, _, _, _, ⟨hRhM_44.1, hRhM_44.2.1, hRhM_44.2.2.1, hRhM_44.2.2.2.1, hRhM_44.2.2.2.2⟩, hLhM_44, he9hM_44⟩) (fun _ => by rw [eL3]; exact hZhM_40 c_41) ((((sm2.rf.up (by omega)).tr (sm.l hshM_38)).tr hshM_40).tr (sm.l hshM_44))
                · skip
                  refine w_aload_n (n := 114) O dX7_readLine_113 rfl rfl rfl ?_
                  refine w_iconst (n := 115) O dX7_readLine_114 (v := (nI 2)) (by decide) rfl ?_
                  refine w_cV (n := 118) (ro := none) (R := fun mM' => isR G mM' Y bs rphM_40 ln rghM_40 false hthM_40 adhM_40 hwhM_40 2 (tkB bs ln (tkE bs ln (tkE bs ln (tkE bs ln (tkE bs ln e))))) (tkE bs ln (tkE bs ln (tkE bs ln (tkE bs ln (tkE bs ln e))))) (tkB bs ln (tkE bs ln (tkE bs ln (tkE bs ln (tkE bs ln e))))) tkhM_40 vahM_40 ∧ sm mhM_40 mM' 49 49) (st := []) (st1 := []) (As := [.int (nI 2)]) (b := 49) O dX7_readLine_115 ul_X7_87 um_X7_fails (f_X7_fails hW ⟨hR0.1, hR0.2.1, hR0.2.2.1, hR0.2.2.2.1, hR0.2.2.2.2⟩ hln hbs (fun M' h1 h2 => ⟨rfl, h1, h2⟩)) rfl (by omega) hR0.1 rfl rfl rfl rfl (by omega) (Nat.le_of_ble_eq_true rfl) rfl (fun mhM_45 hM_45 => ?_)
                  obtain ⟨hRhM_45, hshM_45⟩ := hM_45
                  refine w_aload_n (n := 119) O dX7_readLine_118 rfl rfl rfl ?_
                  refine w_cV (n := 122) (ro := none) (R := fun mM' => mhM_45 = mM') (st := []) (st1 := []) (As := []) (b := 49) O dX7_readLine_119 ul_X7_91 um_X7_step (f_X7_step0 hW ⟨hRhM_45.1, hRhM_45.2.1, hRhM_45.2.2.1, hRhM_45.2.2.2.1, hRhM_45.2.2.2.2⟩ hln hbs (by decide) (by omega) ⟨rfl, rfl⟩) rfl (by omega) hRhM_45.1 rfl rfl rfl rfl (by omega) (Nat.le_of_ble_eq_true rfl) rfl (fun mhM_46 hM_46 => ?_)
                  subst hM_46
                  refine w_vret O dX7_readLine_122 ?_
                  have hz0 := (orF_z c_41).1
                  obtain ⟨f1, f2⟩ := fin_3 (X := aTB bs ln (tkE bs ln (tkE bs ln (tkE bs ln (tkE bs ln (tkE bs ln e)))))) hz0 (by omega) (show ¬ tkS bs ln (tkE bs ln (tkE bs ln (tkE bs ln (tkE bs ln e)))) = 4 by omega)
                  have eF : orF (fLin bs ln Z (tkS bs ln e) (tkB bs ln e) (tkE bs ln e)) (aTB bs ln (eLin bs ln (tkS bs ln e) (tkB bs ln e) (tkE bs ln e))) = (2, tkB bs ln (tkE bs ln (tkE bs ln (tkE bs ln (tkE bs ln e))))) := by rw [eL1, eL2]; exact f1
                  exact hQ _ _ _ _ _ _ _ (by rw [eF, eL2]; exact ⟨_, _, _, _, _, ⟨hRhM_45.1, hRhM_45.2.1, hRhM_45.2.2.1, hRhM_45.2.2.2.1, hRhM_45.2.2.2.2⟩, ⟨hl1hM_40, hl2hM_40, hl3hM_40, hl4hM_40, (show 2 ≤ 6 by decide), (fun _ => rfl), (fun z => absurd z (show ¬ 2 = 0 by decide))⟩, tkE_le he9hM_40⟩) (fun z => absurd z (by rw [eL1]; exact f2)) ((((sm2.rf.up (by omega)).tr (sm.l hshM_38)).tr hshM_40).tr (sm.l hshM_45))
            · skip
              subst hn
              refine w_cV (n := 98) (ro := none) (R := fun mM' => ∃ q1 q2 q3 q4 q5, PM G mM' Y bs q1 ln q2 false q3 q4 q5 (orF (fSor bs ln Z (tkE bs ln e)) (aTB bs ln (tkE bs ln (tkE bs ln e)))) (tkE bs ln (tkE bs ln e)) ∧ ((orF (fSor bs ln Z (tkE bs ln e)) (aTB bs ln (tkE bs ln (tkE bs ln e)))).1 = 0 → ZR q1 q2 false q3 q4 q5 (uSor bs ln Z (tkE bs ln e))) ∧ sm2 mhM_38 mM' 49 49 51 51) (st := []) (st1 := []) (As := [.int (nI 4)]) (b := 49) O dX7_readLine_95 ul_X7_127 um_X7_readMore (f_X7_rmS hW ⟨_, _, _, _, _, ⟨hRhM_38.1, hRhM_38.2.1, hRhM_38.2.2.1, hRhM_38.2.2.2.1, hRhM_38.2.2.2.2⟩, hLhM_38, he9hM_38⟩ hln hbs c_39 ⟨hz1, hz2, c_6.symm.trans hz3, hz4, hz5, hz6⟩ hok (fun M' q1 q2 q3 q4 q5 h1 h2 h3 => ⟨rfl, q1, q2, q3, q4, q5, h1, h2, h3⟩)) rfl (by omega) hRhM_38.1 rfl rfl rfl rfl (by omega) (Nat.le_of_ble_eq_true rfl) rfl (fun mhM_47 hM_47 => ?_)
              obtain ⟨rphM_47, rghM_47, hthM_47, adhM_47, hwhM_47, hPhM_47, hZhM_47, hshM_47⟩ := hM_47
              obtain ⟨bahM_47, sphM_47, hehM_47, tkhM_47, vahM_47, hRhM_47, hLhM_47, he9hM_47⟩ := hPhM_47
              obtain ⟨hl1hM_47, hl2hM_47, hl3hM_47, hl4hM_47, hl5hM_47, hl6hM_47, hl7hM_47⟩ := id hLhM_47
              obtain ⟨eL1, eL2, eL3⟩ := lin_S (ln := ln) (Z := Z) hW9
              refine w_aload_n (n := 99) O dX7_readLine_98 rfl rfl rfl ?_
              refine w_getf (n := 102) O 11 dX7_readLine_99 (by omega) hRhM_47.1 rfl (by decide) uX7 uf_X7_57 rfl rfl ?_
              refine w_if_neN (n := 105) (tgt := 118) O dX7_readLine_102 (by omega) (by decide) rfl (fun c_48 => ?_) (fun c_48 => ?_)
              · skip
                refine w_aload_n (n := 119) O dX7_readLine_118 rfl rfl rfl ?_
                refine w_cV (n := 122) (ro := none) (R := fun mM' => mhM_47 = mM') (st := []) (st1 := []) (As := []) (b := 49) O dX7_readLine_119 ul_X7_91 um_X7_step (f_X7_step0 hW ⟨hRhM_47.1, hRhM_47.2.1, hRhM_47.2.2.1, hRhM_47.2.2.2.1, hRhM_47.2.2.2.2⟩ hln hbs c_48 (by omega) ⟨rfl, rfl⟩) rfl (by omega) hRhM_47.1 rfl rfl rfl rfl (by omega) (Nat.le_of_ble_eq_true rfl) rfl (fun mhM_49 hM_49 => ?_)
                subst hM_49
                refine w_vret O dX7_readLine_122 ?_
                obtain ⟨f1, f2⟩ := fin_1 (X := aTB bs ln (tkE bs ln (tkE bs ln (tkE bs ln e)))) c_48
                have eF : orF (fLin bs ln Z (tkS bs ln e) (tkB bs ln e) (tkE bs ln e)) (aTB bs ln (eLin bs ln (tkS bs ln e) (tkB bs ln e) (tkE bs ln e))) = orF (fSor bs ln Z (tkE bs ln e)) (aTB bs ln (tkE bs ln (tkE bs ln e))) := by rw [eL1, eL2]; exact f1
                exact hQ _ _ _ _ _ _ _ (by rw [eF, eL2]; exact ⟨_, _, _, _, _, ⟨hRhM_47.1, hRhM_47.2.1, hRhM_47.2.2.1, hRhM_47.2.2.2.1, hRhM_47.2.2.2.2⟩, ⟨hl1hM_47, hl2hM_47, hl3hM_47, hl4hM_47, hl5hM_47, hl6hM_47, fun z => absurd z c_48⟩, tkE_le he9hM_47⟩) (fun z => absurd z (by rw [eL1]; exact f2)) (((sm2.rf.up (by omega)).tr (sm.l hshM_38)).tr hshM_47)
              · skip
                obtain ⟨q1, q2, q3, q4⟩ := hl7hM_47 c_48
                subst q1
                subst q2
                have hR0 := hRhM_47
                rw [c_48] at hR0
                have hq4 := tkS_le bs ln (tkE bs ln (tkE bs ln e))
                refine w_aload_n (n := 106) O dX7_readLine_105 rfl rfl rfl ?_
                refine w_getf (n := 109) O 15 dX7_readLine_106 (by omega) hR0.1 rfl (by decide) uX7 uf_X7_66 rfl rfl ?_
                refine w_iconst (n := 110) O dX7_readLine_109 (v := (nI 3)) (by decide) rfl ?_
                refine w_icmp_eqN (n := 113) (tgt := 118) O dX7_readLine_110 (by omega) (by omega) (by decide) rfl (fun c_50 => ?_) (fun c_50 => ?_)
                · skip
                  refine w_aload_n (n := 119) O dX7_readLine_118 rfl rfl rfl ?_
                  refine w_cV (n := 122) (ro := none) (R := fun mM' => PM G mM' Y bs rphM_47 ln rghM_47 false hthM_47 adhM_47 hwhM_47 (aT bs ln (tkE bs ln (tkE bs ln (tkE bs ln e))), tkB bs ln (tkE bs ln (tkE bs ln (tkE bs ln e)))) (tkE bs ln (tkE bs ln (tkE bs ln e))) ∧ sm mhM_47 mM' 49 49) (st := []) (st1 := []) (As := []) (b := 49) O dX7_readLine_119 ul_X7_91 um_X7_step (f_X7_step1 hW ⟨hR0.1, hR0.2.1, hR0.2.2.1, hR0.2.2.2.1, hR0.2.2.2.2⟩ hln hbs (by omega) (fun M' h1 h2 => ⟨rfl, h1, h2⟩)) rfl (by omega) hR0.1 rfl rfl rfl rfl (by omega) (Nat.le_of_ble_eq_true rfl) rfl (fun mhM_51 hM_51 => ?_)
                  obtain ⟨⟨bahM_51, sphM_51, hehM_51, tkhM_51, vahM_51, hRhM_51, hLhM_51, he9hM_51⟩, hshM_51⟩ := hM_51
                  obtain ⟨hl1hM_51, hl2hM_51, hl3hM_51, hl4hM_51, hl5hM_51, hl6hM_51, hl7hM_51⟩ := id hLhM_51
                  refine w_vret O dX7_readLine_122 ?_
                  have hz0 := (orF_z c_48).1
                  have eF : orF (fLin bs ln Z (tkS bs ln e) (tkB bs ln e) (tkE bs ln e)) (aTB bs ln (eLin bs ln (tkS bs ln e) (tkB bs ln e) (tkE bs ln e))) = aTB bs ln (tkE bs ln (tkE bs ln (tkE bs ln e))) := by rw [eL1, eL2]; exact fin_2 hz0 (by omega)
                  exact hQ _ _ _ _ _ _ _ (by rw [eF, eL2]; exact ⟨_, _, _, _, _, ⟨hRhM_51.1, hRhM_51.2.1, hRhM_51.2.2.1, hRhM_51.2.2.2.1, hRhM_51.2.2.2.2⟩, hLhM_51, he9hM_51⟩) (fun _ => by rw [eL3]; exact hZhM_47 c_48) ((((sm2.rf.up (by omega)).tr (sm.l hshM_38)).tr hshM_47).tr (sm.l hshM_51))
                · skip
                  refine w_aload_n (n := 114) O dX7_readLine_113 rfl rfl rfl ?_
                  refine w_iconst (n := 115) O dX7_readLine_114 (v := (nI 2)) (by decide) rfl ?_
                  refine w_cV (n := 118) (ro := none) (R := fun mM' => isR G mM' Y bs rphM_47 ln rghM_47 false hthM_47 adhM_47 hwhM_47 2 (tkB bs ln (tkE bs ln (tkE bs ln e))) (tkE bs ln (tkE bs ln (tkE bs ln e))) (tkB bs ln (tkE bs ln (tkE bs ln e))) tkhM_47 vahM_47 ∧ sm mhM_47 mM' 49 49) (st := []) (st1 := []) (As := [.int (nI 2)]) (b := 49) O dX7_readLine_115 ul_X7_87 um_X7_fails (f_X7_fails hW ⟨hR0.1, hR0.2.1, hR0.2.2.1, hR0.2.2.2.1, hR0.2.2.2.2⟩ hln hbs (fun M' h1 h2 => ⟨rfl, h1, h2⟩)) rfl (by omega) hR0.1 rfl rfl rfl rfl (by omega) (Nat.le_of_ble_eq_true rfl) rfl (fun mhM_52 hM_52 => ?_)
                  obtain ⟨hRhM_52, hshM_52⟩ := hM_52
                  refine w_aload_n (n := 119) O dX7_readLine_118 rfl rfl rfl ?_
                  refine w_cV (n := 122) (ro := none) (R := fun mM' => mhM_52 = mM') (st := []) (st1 := []) (As := []) (b := 49) O dX7_readLine_119 ul_X7_91 um_X7_step (f_X7_step0 hW ⟨hRhM_52.1, hRhM_52.2.1, hRhM_52.2.2.1, hRhM_52.2.2.2.1, hRhM_52.2.2.2.2⟩ hln hbs (by decide) (by omega) ⟨rfl, rfl⟩) rfl (by omega) hRhM_52.1 rfl rfl rfl rfl (by omega) (Nat.le_of_ble_eq_true rfl) rfl (fun mhM_53 hM_53 => ?_)
                  subst hM_53
                  refine w_vret O dX7_readLine_122 ?_
                  have hz0 := (orF_z c_48).1
                  obtain ⟨f1, f2⟩ := fin_3 (X := aTB bs ln (tkE bs ln (tkE bs ln (tkE bs ln e)))) hz0 (by omega) (show ¬ tkS bs ln (tkE bs ln (tkE bs ln e)) = 4 by omega)
                  have eF : orF (fLin bs ln Z (tkS bs ln e) (tkB bs ln e) (tkE bs ln e)) (aTB bs ln (eLin bs ln (tkS bs ln e) (tkB bs ln e) (tkE bs ln e))) = (2, tkB bs ln (tkE bs ln (tkE bs ln e))) := by rw [eL1, eL2]; exact f1
                  exact hQ _ _ _ _ _ _ _ (by rw [eF, eL2]; exact ⟨_, _, _, _, _, ⟨hRhM_52.1, hRhM_52.2.1, hRhM_52.2.2.1, hRhM_52.2.2.2.1, hRhM_52.2.2.2.2⟩, ⟨hl1hM_47, hl2hM_47, hl3hM_47, hl4hM_47, (show 2 ≤ 6 by decide), (fun _ => rfl), (fun z => absurd z (show ¬ 2 = 0 by decide))⟩, tkE_le he9hM_47⟩) (fun z => absurd z (by rw [eL1]; exact f2)) ((((sm2.rf.up (by omega)).tr (sm.l hshM_38)).tr hshM_47).tr (sm.l hshM_52))
            · skip
              subst hn
              refine w_cV (n := 98) (ro := none) (R := fun mM' => ∃ q1 q2 q3 q4 q5, PM G mM' Y bs q1 ln q2 false q3 q4 q5 (orF (fHol bs ln Z (tkE bs ln e)) (aTB bs ln (tkE bs ln (tkE bs ln (tkE bs ln e))))) (tkE bs ln (tkE bs ln (tkE bs ln e))) ∧ ((orF (fHol bs ln Z (tkE bs ln e)) (aTB bs ln (tkE bs ln (tkE bs ln (tkE bs ln e))))).1 = 0 → ZR q1 q2 false q3 q4 q5 (uHol bs ln Z (tkE bs ln e))) ∧ sm2 mhM_38 mM' 49 49 51 51) (st := []) (st1 := []) (As := [.int (nI 5)]) (b := 49) O dX7_readLine_95 ul_X7_127 um_X7_readMore (f_X7_rmH hW ⟨_, _, _, _, _, ⟨hRhM_38.1, hRhM_38.2.1, hRhM_38.2.2.1, hRhM_38.2.2.2.1, hRhM_38.2.2.2.2⟩, hLhM_38, he9hM_38⟩ hln hbs c_39 ⟨hz1, hz2, c_6.symm.trans hz3, hz4, hz5, hz6⟩ hok (fun M' q1 q2 q3 q4 q5 h1 h2 h3 => ⟨rfl, q1, q2, q3, q4, q5, h1, h2, h3⟩)) rfl (by omega) hRhM_38.1 rfl rfl rfl rfl (by omega) (Nat.le_of_ble_eq_true rfl) rfl (fun mhM_54 hM_54 => ?_)
              obtain ⟨rphM_54, rghM_54, hthM_54, adhM_54, hwhM_54, hPhM_54, hZhM_54, hshM_54⟩ := hM_54
              obtain ⟨bahM_54, sphM_54, hehM_54, tkhM_54, vahM_54, hRhM_54, hLhM_54, he9hM_54⟩ := hPhM_54
              obtain ⟨hl1hM_54, hl2hM_54, hl3hM_54, hl4hM_54, hl5hM_54, hl6hM_54, hl7hM_54⟩ := id hLhM_54
              obtain ⟨eL1, eL2, eL3⟩ := lin_H (ln := ln) (Z := Z) hW9
              refine w_aload_n (n := 99) O dX7_readLine_98 rfl rfl rfl ?_
              refine w_getf (n := 102) O 11 dX7_readLine_99 (by omega) hRhM_54.1 rfl (by decide) uX7 uf_X7_57 rfl rfl ?_
              refine w_if_neN (n := 105) (tgt := 118) O dX7_readLine_102 (by omega) (by decide) rfl (fun c_55 => ?_) (fun c_55 => ?_)
              · skip
                refine w_aload_n (n := 119) O dX7_readLine_118 rfl rfl rfl ?_
                refine w_cV (n := 122) (ro := none) (R := fun mM' => mhM_54 = mM') (st := []) (st1 := []) (As := []) (b := 49) O dX7_readLine_119 ul_X7_91 um_X7_step (f_X7_step0 hW ⟨hRhM_54.1, hRhM_54.2.1, hRhM_54.2.2.1, hRhM_54.2.2.2.1, hRhM_54.2.2.2.2⟩ hln hbs c_55 (by omega) ⟨rfl, rfl⟩) rfl (by omega) hRhM_54.1 rfl rfl rfl rfl (by omega) (Nat.le_of_ble_eq_true rfl) rfl (fun mhM_56 hM_56 => ?_)
                subst hM_56
                refine w_vret O dX7_readLine_122 ?_
                obtain ⟨f1, f2⟩ := fin_1 (X := aTB bs ln (tkE bs ln (tkE bs ln (tkE bs ln (tkE bs ln e))))) c_55
                have eF : orF (fLin bs ln Z (tkS bs ln e) (tkB bs ln e) (tkE bs ln e)) (aTB bs ln (eLin bs ln (tkS bs ln e) (tkB bs ln e) (tkE bs ln e))) = orF (fHol bs ln Z (tkE bs ln e)) (aTB bs ln (tkE bs ln (tkE bs ln (tkE bs ln e)))) := by rw [eL1, eL2]; exact f1
                exact hQ _ _ _ _ _ _ _ (by rw [eF, eL2]; exact ⟨_, _, _, _, _, ⟨hRhM_54.1, hRhM_54.2.1, hRhM_54.2.2.1, hRhM_54.2.2.2.1, hRhM_54.2.2.2.2⟩, ⟨hl1hM_54, hl2hM_54, hl3hM_54, hl4hM_54, hl5hM_54, hl6hM_54, fun z => absurd z c_55⟩, tkE_le he9hM_54⟩) (fun z => absurd z (by rw [eL1]; exact f2)) (((sm2.rf.up (by omega)).tr (sm.l hshM_38)).tr hshM_54)
              · skip
                obtain ⟨q1, q2, q3, q4⟩ := hl7hM_54 c_55
                subst q1
                subst q2
                have hR0 := hRhM_54
                rw [c_55] at hR0
                have hq4 := tkS_le bs ln (tkE bs ln (tkE bs ln (tkE bs ln e)))
                refine w_aload_n (n := 106) O dX7_readLine_105 rfl rfl rfl ?_
                refine w_getf (n := 109) O 15 dX7_readLine_106 (by omega) hR0.1 rfl (by decide) uX7 uf_X7_66 rfl rfl ?_
                refine w_iconst (n := 110) O dX7_readLine_109 (v := (nI 3)) (by decide) rfl ?_
                refine w_icmp_eqN (n := 113) (tgt := 118) O dX7_readLine_110 (by omega) (by omega) (by decide) rfl (fun c_57 => ?_) (fun c_57 => ?_)
                · skip
                  refine w_aload_n (n := 119) O dX7_readLine_118 rfl rfl rfl ?_
                  refine w_cV (n := 122) (ro := none) (R := fun mM' => PM G mM' Y bs rphM_54 ln rghM_54 false hthM_54 adhM_54 hwhM_54 (aT bs ln (tkE bs ln (tkE bs ln (tkE bs ln (tkE bs ln e)))), tkB bs ln (tkE bs ln (tkE bs ln (tkE bs ln (tkE bs ln e))))) (tkE bs ln (tkE bs ln (tkE bs ln (tkE bs ln e)))) ∧ sm mhM_54 mM' 49 49) (st := []) (st1 := []) (As := []) (b := 49) O dX7_readLine_119 ul_X7_91 um_X7_step (f_X7_step1 hW ⟨hR0.1, hR0.2.1, hR0.2.2.1, hR0.2.2.2.1, hR0.2.2.2.2⟩ hln hbs (by omega) (fun M' h1 h2 => ⟨rfl, h1, h2⟩)) rfl (by omega) hR0.1 rfl rfl rfl rfl (by omega) (Nat.le_of_ble_eq_true rfl) rfl (fun mhM_58 hM_58 => ?_)
                  obtain ⟨⟨bahM_58, sphM_58, hehM_58, tkhM_58, vahM_58, hRhM_58, hLhM_58, he9hM_58⟩, hshM_58⟩ := hM_58
                  obtain ⟨hl1hM_58, hl2hM_58, hl3hM_58, hl4hM_58, hl5hM_58, hl6hM_58, hl7hM_58⟩ := id hLhM_58
                  refine w_vret O dX7_readLine_122 ?_
                  have hz0 := (orF_z c_55).1
                  have eF : orF (fLin bs ln Z (tkS bs ln e) (tkB bs ln e) (tkE bs ln e)) (aTB bs ln (eLin bs ln (tkS bs ln e) (tkB bs ln e) (tkE bs ln e))) = aTB bs ln (tkE bs ln (tkE bs ln (tkE bs ln (tkE bs ln e)))) := by rw [eL1, eL2]; exact fin_2 hz0 (by omega)
                  exact hQ _ _ _ _ _ _ _ (by rw [eF, eL2]; exact ⟨_, _, _, _, _, ⟨hRhM_58.1, hRhM_58.2.1, hRhM_58.2.2.1, hRhM_58.2.2.2.1, hRhM_58.2.2.2.2⟩, hLhM_58, he9hM_58⟩) (fun _ => by rw [eL3]; exact hZhM_54 c_55) ((((sm2.rf.up (by omega)).tr (sm.l hshM_38)).tr hshM_54).tr (sm.l hshM_58))
                · skip
                  refine w_aload_n (n := 114) O dX7_readLine_113 rfl rfl rfl ?_
                  refine w_iconst (n := 115) O dX7_readLine_114 (v := (nI 2)) (by decide) rfl ?_
                  refine w_cV (n := 118) (ro := none) (R := fun mM' => isR G mM' Y bs rphM_54 ln rghM_54 false hthM_54 adhM_54 hwhM_54 2 (tkB bs ln (tkE bs ln (tkE bs ln (tkE bs ln e)))) (tkE bs ln (tkE bs ln (tkE bs ln (tkE bs ln e)))) (tkB bs ln (tkE bs ln (tkE bs ln (tkE bs ln e)))) tkhM_54 vahM_54 ∧ sm mhM_54 mM' 49 49) (st := []) (st1 := []) (As := [.int (nI 2)]) (b := 49) O dX7_readLine_115 ul_X7_87 um_X7_fails (f_X7_fails hW ⟨hR0.1, hR0.2.1, hR0.2.2.1, hR0.2.2.2.1, hR0.2.2.2.2⟩ hln hbs (fun M' h1 h2 => ⟨rfl, h1, h2⟩)) rfl (by omega) hR0.1 rfl rfl rfl rfl (by omega) (Nat.le_of_ble_eq_true rfl) rfl (fun mhM_59 hM_59 => ?_)
                  obtain ⟨hRhM_59, hshM_59⟩ := hM_59
                  refine w_aload_n (n := 119) O dX7_readLine_118 rfl rfl rfl ?_
                  refine w_cV (n := 122) (ro := none) (R := fun mM' => mhM_59 = mM') (st := []) (st1 := []) (As := []) (b := 49) O dX7_readLine_119 ul_X7_91 um_X7_step (f_X7_step0 hW ⟨hRhM_59.1, hRhM_59.2.1, hRhM_59.2.2.1, hRhM_59.2.2.2.1, hRhM_59.2.2.2.2⟩ hln hbs (by decide) (by omega) ⟨rfl, rfl⟩) rfl (by omega) hRhM_59.1 rfl rfl rfl rfl (by omega) (Nat.le_of_ble_eq_true rfl) rfl (fun mhM_60 hM_60 => ?_)
                  subst hM_60
                  refine w_vret O dX7_readLine_122 ?_
                  have hz0 := (orF_z c_55).1
                  obtain ⟨f1, f2⟩ := fin_3 (X := aTB bs ln (tkE bs ln (tkE bs ln (tkE bs ln (tkE bs ln e))))) hz0 (by omega) (show ¬ tkS bs ln (tkE bs ln (tkE bs ln (tkE bs ln e))) = 4 by omega)
                  have eF : orF (fLin bs ln Z (tkS bs ln e) (tkB bs ln e) (tkE bs ln e)) (aTB bs ln (eLin bs ln (tkS bs ln e) (tkB bs ln e) (tkE bs ln e))) = (2, tkB bs ln (tkE bs ln (tkE bs ln (tkE bs ln e)))) := by rw [eL1, eL2]; exact f1
                  exact hQ _ _ _ _ _ _ _ (by rw [eF, eL2]; exact ⟨_, _, _, _, _, ⟨hRhM_59.1, hRhM_59.2.1, hRhM_59.2.2.1, hRhM_59.2.2.2.1, hRhM_59.2.2.2.2⟩, ⟨hl1hM_54, hl2hM_54, hl3hM_54, hl4hM_54, (show 2 ≤ 6 by decide), (fun _ => rfl), (fun z => absurd z (show ¬ 2 = 0 by decide))⟩, tkE_le he9hM_54⟩) (fun z => absurd z (by rw [eL1]; exact f2)) ((((sm2.rf.up (by omega)).tr (sm.l hshM_38)).tr hshM_54).tr (sm.l hshM_59))
            · skip
              subst hn
              refine w_cV (n := 98) (ro := none) (R := fun mM' => ∃ q1 q2 q3 q4 q5, PM G mM' Y bs q1 ln q2 false q3 q4 q5 (orF (fAdd bs ln Z (tkE bs ln e)) (aTB bs ln (tkE bs ln (tkE bs ln (tkE bs ln e))))) (tkE bs ln (tkE bs ln (tkE bs ln e))) ∧ ((orF (fAdd bs ln Z (tkE bs ln e)) (aTB bs ln (tkE bs ln (tkE bs ln (tkE bs ln e))))).1 = 0 → ZR q1 q2 false q3 q4 q5 (uAdd bs ln Z (tkE bs ln e))) ∧ sm2 mhM_38 mM' 49 49 51 51) (st := []) (st1 := []) (As := [.int (nI 6)]) (b := 49) O dX7_readLine_95 ul_X7_127 um_X7_readMore (f_X7_rmA hW ⟨_, _, _, _, _, ⟨hRhM_38.1, hRhM_38.2.1, hRhM_38.2.2.1, hRhM_38.2.2.2.1, hRhM_38.2.2.2.2⟩, hLhM_38, he9hM_38⟩ hln hbs c_39 ⟨hz1, hz2, c_6.symm.trans hz3, hz4, hz5, hz6⟩ hok (fun M' q1 q2 q3 q4 q5 h1 h2 h3 => ⟨rfl, q1, q2, q3, q4, q5, h1, h2, h3⟩)) rfl (by omega) hRhM_38.1 rfl rfl rfl rfl (by omega) (Nat.le_of_ble_eq_true rfl) rfl (fun mhM_61 hM_61 => ?_)
              obtain ⟨rphM_61, rghM_61, hthM_61, adhM_61, hwhM_61, hPhM_61, hZhM_61, hshM_61⟩ := hM_61
              obtain ⟨bahM_61, sphM_61, hehM_61, tkhM_61, vahM_61, hRhM_61, hLhM_61, he9hM_61⟩ := hPhM_61
              obtain ⟨hl1hM_61, hl2hM_61, hl3hM_61, hl4hM_61, hl5hM_61, hl6hM_61, hl7hM_61⟩ := id hLhM_61
              obtain ⟨eL1, eL2, eL3⟩ := lin_A (ln := ln) (Z := Z) hW9
              refine w_aload_n (n := 99) O dX7_readLine_98 rfl rfl rfl ?_
              refine w_getf (n := 102) O 11 dX7_readLine_99 (by omega) hRhM_61.1 rfl (by decide) uX7 uf_X7_57 rfl rfl ?_
              refine w_if_neN (n := 105) (tgt := 118) O dX7_readLine_102 (by omega) (by decide) rfl (fun c_62 => ?_) (fun c_62 => ?_)
              · skip
                refine w_aload_n (n := 119) O dX7_readLine_118 rfl rfl rfl ?_
                refine w_cV (n := 122) (ro := none) (R := fun mM' => mhM_61 = mM') (st := []) (st1 := []) (As := []) (b := 49) O dX7_readLine_119 ul_X7_91 um_X7_step (f_X7_step0 hW ⟨hRhM_61.1, hRhM_61.2.1, hRhM_61.2.2.1, hRhM_61.2.2.2.1, hRhM_61.2.2.2.2⟩ hln hbs c_62 (by omega) ⟨rfl, rfl⟩) rfl (by omega) hRhM_61.1 rfl rfl rfl rfl (by omega) (Nat.le_of_ble_eq_true rfl) rfl (fun mhM_63 hM_63 => ?_)
                subst hM_63
                refine w_vret O dX7_readLine_122 ?_
                obtain ⟨f1, f2⟩ := fin_1 (X := aTB bs ln (tkE bs ln (tkE bs ln (tkE bs ln (tkE bs ln e))))) c_62
                have eF : orF (fLin bs ln Z (tkS bs ln e) (tkB bs ln e) (tkE bs ln e)) (aTB bs ln (eLin bs ln (tkS bs ln e) (tkB bs ln e) (tkE bs ln e))) = orF (fAdd bs ln Z (tkE bs ln e)) (aTB bs ln (tkE bs ln (tkE bs ln (tkE bs ln e)))) := by rw [eL1, eL2]; exact f1
                exact hQ _ _ _ _ _ _ _ (by rw [eF, eL2]; exact ⟨_, _, _, _, _, ⟨hRhM_61.1, hRhM_61.2.1, hRhM_61.2.2.1, hRhM_61.2.2.2.1, hRhM_61.2.2.2.2⟩, ⟨hl1hM_61, hl2hM_61, hl3hM_61, hl4hM_61, hl5hM_61, hl6hM_61, fun z => absurd z c_62⟩, tkE_le he9hM_61⟩) (fun z => absurd z (by rw [eL1]; exact f2)) (((sm2.rf.up (by omega)).tr (sm.l hshM_38)).tr hshM_61)
              · skip
                obtain ⟨q1, q2, q3, q4⟩ := hl7hM_61 c_62
                subst q1
                subst q2
                have hR0 := hRhM_61
                rw [c_62] at hR0
                have hq4 := tkS_le bs ln (tkE bs ln (tkE bs ln (tkE bs ln e)))
                refine w_aload_n (n := 106) O dX7_readLine_105 rfl rfl rfl ?_
                refine w_getf (n := 109) O 15 dX7_readLine_106 (by omega) hR0.1 rfl (by decide) uX7 uf_X7_66 rfl rfl ?_
                refine w_iconst (n := 110) O dX7_readLine_109 (v := (nI 3)) (by decide) rfl ?_
                refine w_icmp_eqN (n := 113) (tgt := 118) O dX7_readLine_110 (by omega) (by omega) (by decide) rfl (fun c_64 => ?_) (fun c_64 => ?_)
                · skip
                  refine w_aload_n (n := 119) O dX7_readLine_118 rfl rfl rfl ?_
                  refine w_cV (n := 122) (ro := none) (R := fun mM' => PM G mM' Y bs rphM_61 ln rghM_61 false hthM_61 adhM_61 hwhM_61 (aT bs ln (tkE bs ln (tkE bs ln (tkE bs ln (tkE bs ln e)))), tkB bs ln (tkE bs ln (tkE bs ln (tkE bs ln (tkE bs ln e))))) (tkE bs ln (tkE bs ln (tkE bs ln (tkE bs ln e)))) ∧ sm mhM_61 mM' 49 49) (st := []) (st1 := []) (As := []) (b := 49) O dX7_readLine_119 ul_X7_91 um_X7_step (f_X7_step1 hW ⟨hR0.1, hR0.2.1, hR0.2.2.1, hR0.2.2.2.1, hR0.2.2.2.2⟩ hln hbs (by omega) (fun M' h1 h2 => ⟨rfl, h1, h2⟩)) rfl (by omega) hR0.1 rfl rfl rfl rfl (by omega) (Nat.le_of_ble_eq_true rfl) rfl (fun mhM_65 hM_65 => ?_)
                  obtain ⟨⟨bahM_65, sphM_65, hehM_65, tkhM_65, vahM_65, hRhM_65, hLhM_65, he9hM_65⟩, hshM_65⟩ := hM_65
                  obtain ⟨hl1hM_65, hl2hM_65, hl3hM_65, hl4hM_65, hl5hM_65, hl6hM_65, hl7hM_65⟩ := id hLhM_65
                  refine w_vret O dX7_readLine_122 ?_
                  have hz0 := (orF_z c_62).1
                  have eF : orF (fLin bs ln Z (tkS bs ln e) (tkB bs ln e) (tkE bs ln e)) (aTB bs ln (eLin bs ln (tkS bs ln e) (tkB bs ln e) (tkE bs ln e))) = aTB bs ln (tkE bs ln (tkE bs ln (tkE bs ln (tkE bs ln e)))) := by rw [eL1, eL2]; exact fin_2 hz0 (by omega)
                  exact hQ _ _ _ _ _ _ _ (by rw [eF, eL2]; exact ⟨_, _, _, _, _, ⟨hRhM_65.1, hRhM_65.2.1, hRhM_65.2.2.1, hRhM_65.2.2.2.1, hRhM_65.2.2.2.2⟩, hLhM_65, he9hM_65⟩) (fun _ => by rw [eL3]; exact hZhM_61 c_62) ((((sm2.rf.up (by omega)).tr (sm.l hshM_38)).tr hshM_61).tr (sm.l hshM_65))
                · skip
                  refine w_aload_n (n := 114) O dX7_readLine_113 rfl rfl rfl ?_
                  refine w_iconst (n := 115) O dX7_readLine_114 (v := (nI 2)) (by decide) rfl ?_
                  refine w_cV (n := 118) (ro := none) (R := fun mM' => isR G mM' Y bs rphM_61 ln rghM_61 false hthM_61 adhM_61 hwhM_61 2 (tkB bs ln (tkE bs ln (tkE bs ln (tkE bs ln e)))) (tkE bs ln (tkE bs ln (tkE bs ln (tkE bs ln e)))) (tkB bs ln (tkE bs ln (tkE bs ln (tkE bs ln e)))) tkhM_61 vahM_61 ∧ sm mhM_61 mM' 49 49) (st := []) (st1 := []) (As := [.int (nI 2)]) (b := 49) O dX7_readLine_115 ul_X7_87 um_X7_fails (f_X7_fails hW ⟨hR0.1, hR0.2.1, hR0.2.2.1, hR0.2.2.2.1, hR0.2.2.2.2⟩ hln hbs (fun M' h1 h2 => ⟨rfl, h1, h2⟩)) rfl (by omega) hR0.1 rfl rfl rfl rfl (by omega) (Nat.le_of_ble_eq_true rfl) rfl (fun mhM_66 hM_66 => ?_)
                  obtain ⟨hRhM_66, hshM_66⟩ := hM_66
                  refine w_aload_n (n := 119) O dX7_readLine_118 rfl rfl rfl ?_
                  refine w_cV (n := 122) (ro := none) (R := fun mM' => mhM_66 = mM') (st := []) (st1 := []) (As := []) (b := 49) O dX7_readLine_119 ul_X7_91 um_X7_step (f_X7_step0 hW ⟨hRhM_66.1, hRhM_66.2.1, hRhM_66.2.2.1, hRhM_66.2.2.2.1, hRhM_66.2.2.2.2⟩ hln hbs (by decide) (by omega) ⟨rfl, rfl⟩) rfl (by omega) hRhM_66.1 rfl rfl rfl rfl (by omega) (Nat.le_of_ble_eq_true rfl) rfl (fun mhM_67 hM_67 => ?_)
                  subst hM_67
                  refine w_vret O dX7_readLine_122 ?_
                  have hz0 := (orF_z c_62).1
                  obtain ⟨f1, f2⟩ := fin_3 (X := aTB bs ln (tkE bs ln (tkE bs ln (tkE bs ln (tkE bs ln e))))) hz0 (by omega) (show ¬ tkS bs ln (tkE bs ln (tkE bs ln (tkE bs ln e))) = 4 by omega)
                  have eF : orF (fLin bs ln Z (tkS bs ln e) (tkB bs ln e) (tkE bs ln e)) (aTB bs ln (eLin bs ln (tkS bs ln e) (tkB bs ln e) (tkE bs ln e))) = (2, tkB bs ln (tkE bs ln (tkE bs ln (tkE bs ln e)))) := by rw [eL1, eL2]; exact f1
                  exact hQ _ _ _ _ _ _ _ (by rw [eF, eL2]; exact ⟨_, _, _, _, _, ⟨hRhM_66.1, hRhM_66.2.1, hRhM_66.2.2.1, hRhM_66.2.2.2.1, hRhM_66.2.2.2.2⟩, ⟨hl1hM_61, hl2hM_61, hl3hM_61, hl4hM_61, (show 2 ≤ 6 by decide), (fun _ => rfl), (fun z => absurd z (show ¬ 2 = 0 by decide))⟩, tkE_le he9hM_61⟩) (fun z => absurd z (by rw [eL1]; exact f2)) ((((sm2.rf.up (by omega)).tr (sm.l hshM_38)).tr hshM_61).tr (sm.l hshM_66))
            · skip
              omega
          · skip
            refine w_vret O dX7_readLine_92 ?_
            obtain ⟨ha1, ha2⟩ := aT_1 (bs := bs) (ln := ln) (p := tkE bs ln e) (by omega)
            have hRz := hRhM_38
            rw [show (aT bs ln (tkE bs ln e), tkB bs ln (tkE bs ln e)).1 = 1 from ha1] at hRz
            have eL : fLin bs ln Z (tkS bs ln e) (tkB bs ln e) (tkE bs ln e) = (1, tkB bs ln (tkE bs ln e)) := lin_lex hn7 hW9 (fun z => by omega) (fun z => absurd z (by omega)) ha2
            have eF : orF (fLin bs ln Z (tkS bs ln e) (tkB bs ln e) (tkE bs ln e)) (aTB bs ln (eLin bs ln (tkS bs ln e) (tkB bs ln e) (tkE bs ln e))) = (1, tkB bs ln (tkE bs ln e)) := by rw [eL]; rfl
            exact hQ _ _ _ _ _ _ _ (by rw [eF]; exact ⟨_, _, _, _, _, hRz, ⟨hl1hM_38, hl2hM_38, hl3hM_38, hl4hM_38, (show 1 ≤ 6 by decide), (fun _ => hl6hM_38 (show ¬ aT bs ln (tkE bs ln e) = 0 by omega)), (fun z => absurd z (show ¬ 1 = 0 by decide))⟩, eLin_le _ _ hE2⟩) (fun z => absurd z (by rw [eL]; exact (show ¬ 1 = 0 by decide))) ((sm2.rf.up (by omega)).tr (sm.l hshM_38))
      · skip
        refine w_aload_n (n := 48) O dX7_readLine_47 rfl rfl rfl ?_
        refine w_getf (n := 51) O 4 dX7_readLine_48 (by omega) hR.1 rfl (by decide) uX7 uf_X7_123 rfl rfl ?_
        refine w_if_eqB (n := 54) (tgt := 59) O dX7_readLine_51 (by decide) rfl (fun c_68 => ?_) (fun c_68 => ?_)
        · skip
          refine w_aload_n (n := 60) O dX7_readLine_59 rfl rfl rfl ?_
          refine w_aload_n (n := 61) O dX7_readLine_60 rfl rfl rfl ?_
          refine w_getf (n := 64) O 4 dX7_readLine_61 (by omega) hR.1 rfl (by decide) uX7 uf_X7_123 rfl rfl ?_
          refine w_if_neB (n := 67) (tgt := 73) O dX7_readLine_64 (by decide) rfl (fun c_69 => absurd (c_68.symm.trans c_69) (by decide)) (fun c_69 => ?_)
          refine w_iload_n (n := 68) O dX7_readLine_67 rfl rfl rfl ?_
          refine w_bipush (n := 70) O dX7_readLine_68 (v := (nI 7)) (by decide) rfl ?_
          refine w_icmp_neN (n := 73) (tgt := 77) O dX7_readLine_70 (by omega) (by omega) (by decide) rfl (fun c_70 => by omega) (fun c_70 => ?_)
          refine w_iconst (n := 74) O dX7_readLine_73 (v := (nI 1)) (by decide) rfl ?_
          refine w_goto (tgt := 78) O dX7_readLine_74 (by decide) ?_
          refine w_top (bI true) (by decide) ?_
          refine w_putf (n := 81) (fs' := [.ref (gb_ad G 50), .int (Y 1), .ref (gb_ad G 51), .int (nI (rg)), .int (bI (true)), .int (nI (ht)), .int (nI (ad)), .int (dI hw), .ref (gb_ad G 52), .int (nI (ln)), .int (Y 10), .int (nI 0), .int (nI (ba)), .int (nI (tkE bs ln e)), .int (nI (tkB bs ln e)), .int (nI (tk)), .int (nI (va)), .ref (gb_ad G 53), .ref (gb_ad G 54), .int (Y 19), .int (Y 20), .int (Y 21), .int (Y 22), .ref (gb_ad G 55), .int (Y 24), .ref (gb_ad G 56), .int (Y 26), .ref (gb_ad G 57), .ref (gb_ad G 58), .ref (gb_ad G 59), .ref (gb_ad G 60), .int (Y 31)]) O 4 dX7_readLine_78 (by omega) hR.1 rfl (by decide) uX7 uf_X7_123 tyX7 tyX7_ok nmX7 rfl (bI_nar _) (bI_fit _) (Nat.le_of_ble_eq_true rfl) rfl rfl ?_
          refine w_aload_n (n := 82) O dX7_readLine_81 rfl rfl rfl ?_
          refine w_cV (n := 85) (ro := none) (R := fun mM' => PM G mM' Y bs rp ln rg true ht ad hw (aT bs ln (tkE bs ln e), tkB bs ln (tkE bs ln e)) (tkE bs ln e) ∧ sm (va_up mM (49) (.inr (7, [.ref (gb_ad G 50), .int (Y 1), .ref (gb_ad G 51), .int (nI (rg)), .int (bI (true)), .int (nI (ht)), .int (nI (ad)), .int (dI hw), .ref (gb_ad G 52), .int (nI (ln)), .int (Y 10), .int (nI 0), .int (nI (ba)), .int (nI (tkE bs ln e)), .int (nI (tkB bs ln e)), .int (nI (tk)), .int (nI (va)), .ref (gb_ad G 53), .ref (gb_ad G 54), .int (Y 19), .int (Y 20), .int (Y 21), .int (Y 22), .ref (gb_ad G 55), .int (Y 24), .ref (gb_ad G 56), .int (Y 26), .ref (gb_ad G 57), .ref (gb_ad G 58), .ref (gb_ad G 59), .ref (gb_ad G 60), .int (Y 31)]))) mM' 49 49) (st := []) (st1 := []) (As := []) (b := 49) O dX7_readLine_82 ul_X7_91 um_X7_step (f_X7_step1 hW ⟨(va_up_self _ _ _), ((va_up_ne _ _ (by decide)).trans hR.2.1), ((va_up_ne _ _ (by decide)).trans hR.2.2.1), ((va_up_ne _ _ (by decide)).trans hR.2.2.2.1), ((va_up_ne _ _ (by decide)).trans hR.2.2.2.2)⟩ hln hbs (by omega) (fun M' h1 h2 => ⟨rfl, h1, h2⟩)) rfl (by omega) (va_up_self _ _ _) rfl rfl rfl rfl (by omega) (Nat.le_of_ble_eq_true rfl) rfl (fun mhM_71 hM_71 => ?_)
          obtain ⟨⟨bahM_71, sphM_71, hehM_71, tkhM_71, vahM_71, hRhM_71, hLhM_71, he9hM_71⟩, hshM_71⟩ := hM_71
          obtain ⟨hl1hM_71, hl2hM_71, hl3hM_71, hl4hM_71, hl5hM_71, hl6hM_71, hl7hM_71⟩ := id hLhM_71
          have hat := aT_le bs ln (tkE bs ln e)
          refine w_aload_n (n := 86) O dX7_readLine_85 rfl rfl rfl ?_
          refine w_getf (n := 89) O 11 dX7_readLine_86 (by omega) hRhM_71.1 rfl (by decide) uX7 uf_X7_57 rfl rfl ?_
          refine w_if_leN (n := 92) (tgt := 93) O dX7_readLine_89 (by omega) (by decide) rfl (fun c_72 => ?_) (fun c_72 => ?_)
          · skip
            refine w_aload_n (n := 94) O dX7_readLine_93 rfl rfl rfl ?_
            refine w_iload_n (n := 95) O dX7_readLine_94 rfl rfl rfl ?_
            rcases (show n ≤ 3 ∨ n = 4 ∨ n = 5 ∨ n = 6 ∨ n = 7 by omega) with hn | hn | hn | hn | hn
            · skip
              omega
            · skip
              omega
            · skip
              omega
            · skip
              omega
            · skip
              subst hn
              refine w_cV (n := 98) (ro := none) (R := fun mM' => ∃ q1 q2 q3 q4 q5, PM G mM' Y bs q1 ln q2 true q3 q4 q5 (orF (orF (aN bs ln 3 12 (tkE bs ln e), tkB bs ln (tkE bs ln e)) (aN bs ln 0 10 (tkE bs ln (tkE bs ln e)), tkB bs ln (tkE bs ln (tkE bs ln e)))) (aTB bs ln (tkE bs ln (tkE bs ln (tkE bs ln e))))) (tkE bs ln (tkE bs ln (tkE bs ln e))) ∧ ((orF (orF (aN bs ln 3 12 (tkE bs ln e), tkB bs ln (tkE bs ln e)) (aN bs ln 0 10 (tkE bs ln (tkE bs ln e)), tkB bs ln (tkE bs ln (tkE bs ln e)))) (aTB bs ln (tkE bs ln (tkE bs ln (tkE bs ln e))))).1 = 0 → ZR q1 q2 true q3 q4 q5 (uAsk bs ln Z (tkE bs ln e))) ∧ sm2 mhM_71 mM' 49 49 51 51) (st := []) (st1 := []) (As := [.int (nI 7)]) (b := 49) O dX7_readLine_95 ul_X7_127 um_X7_readMore (f_X7_rmQ hW ⟨_, _, _, _, _, ⟨hRhM_71.1, hRhM_71.2.1, hRhM_71.2.2.1, hRhM_71.2.2.2.1, hRhM_71.2.2.2.2⟩, hLhM_71, he9hM_71⟩ hln hbs c_72 hZ hok rfl (fun M' q1 q2 q3 q4 q5 h1 h2 h3 => ⟨rfl, q1, q2, q3, q4, q5, h1, h2, h3⟩)) rfl (by omega) hRhM_71.1 rfl rfl rfl rfl (by omega) (Nat.le_of_ble_eq_true rfl) rfl (fun mhM_73 hM_73 => ?_)
              obtain ⟨rphM_73, rghM_73, hthM_73, adhM_73, hwhM_73, hPhM_73, hZhM_73, hshM_73⟩ := hM_73
              obtain ⟨bahM_73, sphM_73, hehM_73, tkhM_73, vahM_73, hRhM_73, hLhM_73, he9hM_73⟩ := hPhM_73
              obtain ⟨hl1hM_73, hl2hM_73, hl3hM_73, hl4hM_73, hl5hM_73, hl6hM_73, hl7hM_73⟩ := id hLhM_73
              obtain ⟨eL1, eL2, eL3⟩ := lin_Q (ln := ln) (Z := Z) hW9 (hz3.symm.trans c_68)
              refine w_aload_n (n := 99) O dX7_readLine_98 rfl rfl rfl ?_
              refine w_getf (n := 102) O 11 dX7_readLine_99 (by omega) hRhM_73.1 rfl (by decide) uX7 uf_X7_57 rfl rfl ?_
              refine w_if_neN (n := 105) (tgt := 118) O dX7_readLine_102 (by omega) (by decide) rfl (fun c_74 => ?_) (fun c_74 => ?_)
              · skip
                refine w_aload_n (n := 119) O dX7_readLine_118 rfl rfl rfl ?_
                refine w_cV (n := 122) (ro := none) (R := fun mM' => mhM_73 = mM') (st := []) (st1 := []) (As := []) (b := 49) O dX7_readLine_119 ul_X7_91 um_X7_step (f_X7_step0 hW ⟨hRhM_73.1, hRhM_73.2.1, hRhM_73.2.2.1, hRhM_73.2.2.2.1, hRhM_73.2.2.2.2⟩ hln hbs c_74 (by omega) ⟨rfl, rfl⟩) rfl (by omega) hRhM_73.1 rfl rfl rfl rfl (by omega) (Nat.le_of_ble_eq_true rfl) rfl (fun mhM_75 hM_75 => ?_)
                subst hM_75
                refine w_vret O dX7_readLine_122 ?_
                obtain ⟨f1, f2⟩ := fin_1 (X := aTB bs ln (tkE bs ln (tkE bs ln (tkE bs ln (tkE bs ln e))))) c_74
                have eF : orF (fLin bs ln Z (tkS bs ln e) (tkB bs ln e) (tkE bs ln e)) (aTB bs ln (eLin bs ln (tkS bs ln e) (tkB bs ln e) (tkE bs ln e))) = orF (orF (aN bs ln 3 12 (tkE bs ln e), tkB bs ln (tkE bs ln e)) (aN bs ln 0 10 (tkE bs ln (tkE bs ln e)), tkB bs ln (tkE bs ln (tkE bs ln e)))) (aTB bs ln (tkE bs ln (tkE bs ln (tkE bs ln e)))) := by rw [eL1, eL2]; exact f1
                exact hQ _ _ _ _ _ _ _ (by rw [eF, eL2]; exact ⟨_, _, _, _, _, ⟨hRhM_73.1, hRhM_73.2.1, hRhM_73.2.2.1, hRhM_73.2.2.2.1, hRhM_73.2.2.2.2⟩, ⟨hl1hM_73, hl2hM_73, hl3hM_73, hl4hM_73, hl5hM_73, hl6hM_73, fun z => absurd z c_74⟩, tkE_le he9hM_73⟩) (fun z => absurd z (by rw [eL1]; exact f2)) (((sm2.rf.up (by omega)).tr (sm.l hshM_71)).tr hshM_73)
              · skip
                obtain ⟨q1, q2, q3, q4⟩ := hl7hM_73 c_74
                subst q1
                subst q2
                have hR0 := hRhM_73
                rw [c_74] at hR0
                have hq4 := tkS_le bs ln (tkE bs ln (tkE bs ln (tkE bs ln e)))
                refine w_aload_n (n := 106) O dX7_readLine_105 rfl rfl rfl ?_
                refine w_getf (n := 109) O 15 dX7_readLine_106 (by omega) hR0.1 rfl (by decide) uX7 uf_X7_66 rfl rfl ?_
                refine w_iconst (n := 110) O dX7_readLine_109 (v := (nI 3)) (by decide) rfl ?_
                refine w_icmp_eqN (n := 113) (tgt := 118) O dX7_readLine_110 (by omega) (by omega) (by decide) rfl (fun c_76 => ?_) (fun c_76 => ?_)
                · skip
                  refine w_aload_n (n := 119) O dX7_readLine_118 rfl rfl rfl ?_
                  refine w_cV (n := 122) (ro := none) (R := fun mM' => PM G mM' Y bs rphM_73 ln rghM_73 true hthM_73 adhM_73 hwhM_73 (aT bs ln (tkE bs ln (tkE bs ln (tkE bs ln (tkE bs ln e)))), tkB bs ln (tkE bs ln (tkE bs ln (tkE bs ln (tkE bs ln e))))) (tkE bs ln (tkE bs ln (tkE bs ln (tkE bs ln e)))) ∧ sm mhM_73 mM' 49 49) (st := []) (st1 := []) (As := []) (b := 49) O dX7_readLine_119 ul_X7_91 um_X7_step (f_X7_step1 hW ⟨hR0.1, hR0.2.1, hR0.2.2.1, hR0.2.2.2.1, hR0.2.2.2.2⟩ hln hbs (by omega) (fun M' h1 h2 => ⟨rfl, h1, h2⟩)) rfl (by omega) hR0.1 rfl rfl rfl rfl (by omega) (Nat.le_of_ble_eq_true rfl) rfl (fun mhM_77 hM_77 => ?_)
                  obtain ⟨⟨bahM_77, sphM_77, hehM_77, tkhM_77, vahM_77, hRhM_77, hLhM_77, he9hM_77⟩, hshM_77⟩ := hM_77
                  obtain ⟨hl1hM_77, hl2hM_77, hl3hM_77, hl4hM_77, hl5hM_77, hl6hM_77, hl7hM_77⟩ := id hLhM_77
                  refine w_vret O dX7_readLine_122 ?_
                  have hz0 := (orF_z c_74).1
                  have eF : orF (fLin bs ln Z (tkS bs ln e) (tkB bs ln e) (tkE bs ln e)) (aTB bs ln (eLin bs ln (tkS bs ln e) (tkB bs ln e) (tkE bs ln e))) = aTB bs ln (tkE bs ln (tkE bs ln (tkE bs ln (tkE bs ln e)))) := by rw [eL1, eL2]; exact fin_2 hz0 (by omega)
                  exact hQ _ _ _ _ _ _ _ (by rw [eF, eL2]; exact ⟨_, _, _, _, _, ⟨hRhM_77.1, hRhM_77.2.1, hRhM_77.2.2.1, hRhM_77.2.2.2.1, hRhM_77.2.2.2.2⟩, hLhM_77, he9hM_77⟩) (fun _ => by rw [eL3]; exact hZhM_73 c_74) ((((sm2.rf.up (by omega)).tr (sm.l hshM_71)).tr hshM_73).tr (sm.l hshM_77))
                · skip
                  refine w_aload_n (n := 114) O dX7_readLine_113 rfl rfl rfl ?_
                  refine w_iconst (n := 115) O dX7_readLine_114 (v := (nI 2)) (by decide) rfl ?_
                  refine w_cV (n := 118) (ro := none) (R := fun mM' => isR G mM' Y bs rphM_73 ln rghM_73 true hthM_73 adhM_73 hwhM_73 2 (tkB bs ln (tkE bs ln (tkE bs ln (tkE bs ln e)))) (tkE bs ln (tkE bs ln (tkE bs ln (tkE bs ln e)))) (tkB bs ln (tkE bs ln (tkE bs ln (tkE bs ln e)))) tkhM_73 vahM_73 ∧ sm mhM_73 mM' 49 49) (st := []) (st1 := []) (As := [.int (nI 2)]) (b := 49) O dX7_readLine_115 ul_X7_87 um_X7_fails (f_X7_fails hW ⟨hR0.1, hR0.2.1, hR0.2.2.1, hR0.2.2.2.1, hR0.2.2.2.2⟩ hln hbs (fun M' h1 h2 => ⟨rfl, h1, h2⟩)) rfl (by omega) hR0.1 rfl rfl rfl rfl (by omega) (Nat.le_of_ble_eq_true rfl) rfl (fun mhM_78 hM_78 => ?_)
                  obtain ⟨hRhM_78, hshM_78⟩ := hM_78
                  refine w_aload_n (n := 119) O dX7_readLine_118 rfl rfl rfl ?_
                  refine w_cV (n := 122) (ro := none) (R := fun mM' => mhM_78 = mM') (st := []) (st1 := []) (As := []) (b := 49) O dX7_readLine_119 ul_X7_91 um_X7_step (f_X7_step0 hW ⟨hRhM_78.1, hRhM_78.2.1, hRhM_78.2.2.1, hRhM_78.2.2.2.1, hRhM_78.2.2.2.2⟩ hln hbs (by decide) (by omega) ⟨rfl, rfl⟩) rfl (by omega) hRhM_78.1 rfl rfl rfl rfl (by omega) (Nat.le_of_ble_eq_true rfl) rfl (fun mhM_79 hM_79 => ?_)
                  subst hM_79
                  refine w_vret O dX7_readLine_122 ?_
                  have hz0 := (orF_z c_74).1
                  obtain ⟨f1, f2⟩ := fin_3 (X := aTB bs ln (tkE bs ln (tkE bs ln (tkE bs ln (tkE bs ln e))))) hz0 (by omega) (show ¬ tkS bs ln (tkE bs ln (tkE bs ln (tkE bs ln e))) = 4 by omega)
                  have eF : orF (fLin bs ln Z (tkS bs ln e) (tkB bs ln e) (tkE bs ln e)) (aTB bs ln (eLin bs ln (tkS bs ln e) (tkB bs ln e) (tkE bs ln e))) = (2, tkB bs ln (tkE bs ln (tkE bs ln (tkE bs ln e)))) := by rw [eL1, eL2]; exact f1
                  exact hQ _ _ _ _ _ _ _ (by rw [eF, eL2]; exact ⟨_, _, _, _, _, ⟨hRhM_78.1, hRhM_78.2.1, hRhM_78.2.2.1, hRhM_78.2.2.2.1, hRhM_78.2.2.2.2⟩, ⟨hl1hM_73, hl2hM_73, hl3hM_73, hl4hM_73, (show 2 ≤ 6 by decide), (fun _ => rfl), (fun z => absurd z (show ¬ 2 = 0 by decide))⟩, tkE_le he9hM_73⟩) (fun z => absurd z (by rw [eL1]; exact f2)) ((((sm2.rf.up (by omega)).tr (sm.l hshM_71)).tr hshM_73).tr (sm.l hshM_78))
          · skip
            refine w_vret O dX7_readLine_92 ?_
            obtain ⟨ha1, ha2⟩ := aT_1 (bs := bs) (ln := ln) (p := tkE bs ln e) (by omega)
            have hRz := hRhM_71
            rw [show (aT bs ln (tkE bs ln e), tkB bs ln (tkE bs ln e)).1 = 1 from ha1] at hRz
            have eL : fLin bs ln Z (tkS bs ln e) (tkB bs ln e) (tkE bs ln e) = (1, tkB bs ln (tkE bs ln e)) := lin_lex hn7 hW9 (fun z => by omega) (fun z => hz3.symm.trans c_68) ha2
            have eF : orF (fLin bs ln Z (tkS bs ln e) (tkB bs ln e) (tkE bs ln e)) (aTB bs ln (eLin bs ln (tkS bs ln e) (tkB bs ln e) (tkE bs ln e))) = (1, tkB bs ln (tkE bs ln e)) := by rw [eL]; rfl
            exact hQ _ _ _ _ _ _ _ (by rw [eF]; exact ⟨_, _, _, _, _, hRz, ⟨hl1hM_71, hl2hM_71, hl3hM_71, hl4hM_71, (show 1 ≤ 6 by decide), (fun _ => hl6hM_71 (show ¬ aT bs ln (tkE bs ln e) = 0 by omega)), (fun z => absurd z (show ¬ 1 = 0 by decide))⟩, eLin_le _ _ hE2⟩) (fun z => absurd z (by rw [eL]; exact (show ¬ 1 = 0 by decide))) ((sm2.rf.up (by omega)).tr (sm.l hshM_71))
        · skip
          refine w_aload_n (n := 55) O dX7_readLine_54 rfl rfl rfl ?_
          refine w_iconst (n := 56) O dX7_readLine_55 (v := (nI 4)) (by decide) rfl ?_
          refine w_cV (n := 59) (ro := none) (R := fun mM' => isR G mM' Y bs rp ln rg ia ht ad hw 4 (tkB bs ln e) (tkE bs ln e) (tkB bs ln e) tk va ∧ sm mM mM' 49 49) (st := []) (st1 := []) (As := [.int (nI 4)]) (b := 49) O dX7_readLine_56 ul_X7_87 um_X7_fails (f_X7_fails hW ⟨hR.1, hR.2.1, hR.2.2.1, hR.2.2.2.1, hR.2.2.2.2⟩ hln hbs (fun M' h1 h2 => ⟨rfl, h1, h2⟩)) rfl (by omega) hR.1 rfl rfl rfl rfl (by omega) (Nat.le_of_ble_eq_true rfl) rfl (fun mhM_80 hM_80 => ?_)
          obtain ⟨hRhM_80, hshM_80⟩ := hM_80
          refine w_aload_n (n := 60) O dX7_readLine_59 rfl rfl rfl ?_
          refine w_aload_n (n := 61) O dX7_readLine_60 rfl rfl rfl ?_
          refine w_getf (n := 64) O 4 dX7_readLine_61 (by omega) hRhM_80.1 rfl (by decide) uX7 uf_X7_123 rfl rfl ?_
          refine w_if_neB (n := 67) (tgt := 73) O dX7_readLine_64 (by decide) rfl (fun c_81 => ?_) (fun c_81 => absurd (c_68.symm.trans c_81) (by decide))
          refine w_iconst (n := 74) O dX7_readLine_73 (v := (nI 1)) (by decide) rfl ?_
          refine w_goto (tgt := 78) O dX7_readLine_74 (by decide) ?_
          refine w_top (bI true) (by decide) ?_
          refine w_putf (n := 81) (fs' := [.ref (gb_ad G 50), .int (Y 1), .ref (gb_ad G 51), .int (nI (rg)), .int (bI (true)), .int (nI (ht)), .int (nI (ad)), .int (dI hw), .ref (gb_ad G 52), .int (nI (ln)), .int (Y 10), .int (nI 4), .int (nI (tkB bs ln e)), .int (nI (tkE bs ln e)), .int (nI (tkB bs ln e)), .int (nI (tk)), .int (nI (va)), .ref (gb_ad G 53), .ref (gb_ad G 54), .int (Y 19), .int (Y 20), .int (Y 21), .int (Y 22), .ref (gb_ad G 55), .int (Y 24), .ref (gb_ad G 56), .int (Y 26), .ref (gb_ad G 57), .ref (gb_ad G 58), .ref (gb_ad G 59), .ref (gb_ad G 60), .int (Y 31)]) O 4 dX7_readLine_78 (by omega) hRhM_80.1 rfl (by decide) uX7 uf_X7_123 tyX7 tyX7_ok nmX7 rfl (bI_nar _) (bI_fit _) (Nat.le_of_ble_eq_true rfl) rfl rfl ?_
          refine w_aload_n (n := 82) O dX7_readLine_81 rfl rfl rfl ?_
          refine w_cV (n := 85) (ro := none) (R := fun mM' => (va_up mhM_80 (49) (.inr (7, [.ref (gb_ad G 50), .int (Y 1), .ref (gb_ad G 51), .int (nI (rg)), .int (bI (true)), .int (nI (ht)), .int (nI (ad)), .int (dI hw), .ref (gb_ad G 52), .int (nI (ln)), .int (Y 10), .int (nI 4), .int (nI (tkB bs ln e)), .int (nI (tkE bs ln e)), .int (nI (tkB bs ln e)), .int (nI (tk)), .int (nI (va)), .ref (gb_ad G 53), .ref (gb_ad G 54), .int (Y 19), .int (Y 20), .int (Y 21), .int (Y 22), .ref (gb_ad G 55), .int (Y 24), .ref (gb_ad G 56), .int (Y 26), .ref (gb_ad G 57), .ref (gb_ad G 58), .ref (gb_ad G 59), .ref (gb_ad G 60), .int (Y 31)]))) = mM') (st := []) (st1 := []) (As := []) (b := 49) O dX7_readLine_82 ul_X7_91 um_X7_step (f_X7_step0 hW ⟨(va_up_self _ _ _), ((va_up_ne _ _ (by decide)).trans hRhM_80.2.1), ((va_up_ne _ _ (by decide)).trans hRhM_80.2.2.1), ((va_up_ne _ _ (by decide)).trans hRhM_80.2.2.2.1), ((va_up_ne _ _ (by decide)).trans hRhM_80.2.2.2.2)⟩ hln hbs (by decide) (by omega) ⟨rfl, rfl⟩) rfl (by omega) (va_up_self _ _ _) rfl rfl rfl rfl (by omega) (Nat.le_of_ble_eq_true rfl) rfl (fun mhM_82 hM_82 => ?_)
          subst hM_82
          have hat := aT_le bs ln (tkE bs ln e)
          refine w_aload_n (n := 86) O dX7_readLine_85 rfl rfl rfl ?_
          refine w_getf (n := 89) O 11 dX7_readLine_86 (by omega) (va_up_self _ _ _) rfl (by decide) uX7 uf_X7_57 rfl rfl ?_
          refine w_if_leN (n := 92) (tgt := 93) O dX7_readLine_89 (by omega) (by decide) rfl (fun c_83 => by omega) (fun c_83 => ?_)
          refine w_vret O dX7_readLine_92 ?_
          have eL : fLin bs ln Z (tkS bs ln e) (tkB bs ln e) (tkE bs ln e) = (4, tkB bs ln e) := by have hn9 : n = 7 := (by omega); subst hn9; exact lin_T hW9 (hz3.symm.trans c_68)
          have eF : orF (fLin bs ln Z (tkS bs ln e) (tkB bs ln e) (tkE bs ln e)) (aTB bs ln (eLin bs ln (tkS bs ln e) (tkB bs ln e) (tkE bs ln e))) = (4, tkB bs ln e) := by rw [eL]; rfl
          exact hQ _ _ _ _ _ _ _ (by rw [eF]; exact ⟨_, _, _, _, _, ⟨(va_up_self _ _ _), ((va_up_ne _ _ (by decide)).trans hRhM_80.2.1), ((va_up_ne _ _ (by decide)).trans hRhM_80.2.2.1), ((va_up_ne _ _ (by decide)).trans hRhM_80.2.2.2.1), ((va_up_ne _ _ (by decide)).trans hRhM_80.2.2.2.2)⟩, ⟨hE1, hE2, by omega, hva9, (show 4 ≤ 6 by decide), (fun _ => rfl), (fun z => absurd z (show ¬ 4 = 0 by decide))⟩, eLin_le _ _ hE2⟩) (fun z => absurd z (by rw [eL]; exact (show ¬ 4 = 0 by decide))) ((sm2.rf.tr (sm.l hshM_80)).up (by omega))
    · skip
      refine w_aload_n (n := 29) O dX7_readLine_28 rfl rfl rfl ?_
      refine w_getf (n := 32) O 3 dX7_readLine_29 (by omega) hR.1 rfl (by decide) uX7 uf_X7_105 rfl rfl ?_
      refine w_iconst (n := 33) O dX7_readLine_32 (v := (nI 4)) (by decide) rfl ?_
      refine w_icmp_neN (n := 36) (tgt := 41) O dX7_readLine_33 (by omega) (by omega) (by decide) rfl (fun c_84 => ?_) (fun c_84 => ?_)
      · skip
        refine w_iload_n (n := 42) O dX7_readLine_41 rfl rfl rfl ?_
        refine w_bipush (n := 44) O dX7_readLine_42 (v := (nI 7)) (by decide) rfl ?_
        refine w_icmp_neN (n := 47) (tgt := 59) O dX7_readLine_44 (by omega) (by omega) (by decide) rfl (fun c_85 => ?_) (fun c_85 => ?_)
        · skip
          refine w_aload_n (n := 60) O dX7_readLine_59 rfl rfl rfl ?_
          refine w_aload_n (n := 61) O dX7_readLine_60 rfl rfl rfl ?_
          refine w_getf (n := 64) O 4 dX7_readLine_61 (by omega) hR.1 rfl (by decide) uX7 uf_X7_123 rfl rfl ?_
          refine w_if_neB (n := 67) (tgt := 73) O dX7_readLine_64 (by decide) rfl (fun c_86 => ?_) (fun c_86 => ?_)
          · skip
            refine w_iconst (n := 74) O dX7_readLine_73 (v := (nI 1)) (by decide) rfl ?_
            refine w_goto (tgt := 78) O dX7_readLine_74 (by decide) ?_
            refine w_top (bI true) (by decide) ?_
            refine w_putf (n := 81) (fs' := [.ref (gb_ad G 50), .int (Y 1), .ref (gb_ad G 51), .int (nI (rg)), .int (bI (true)), .int (nI (ht)), .int (nI (ad)), .int (dI hw), .ref (gb_ad G 52), .int (nI (ln)), .int (Y 10), .int (nI 0), .int (nI (ba)), .int (nI (tkE bs ln e)), .int (nI (tkB bs ln e)), .int (nI (tk)), .int (nI (va)), .ref (gb_ad G 53), .ref (gb_ad G 54), .int (Y 19), .int (Y 20), .int (Y 21), .int (Y 22), .ref (gb_ad G 55), .int (Y 24), .ref (gb_ad G 56), .int (Y 26), .ref (gb_ad G 57), .ref (gb_ad G 58), .ref (gb_ad G 59), .ref (gb_ad G 60), .int (Y 31)]) O 4 dX7_readLine_78 (by omega) hR.1 rfl (by decide) uX7 uf_X7_123 tyX7 tyX7_ok nmX7 rfl (bI_nar _) (bI_fit _) (Nat.le_of_ble_eq_true rfl) rfl rfl ?_
            refine w_aload_n (n := 82) O dX7_readLine_81 rfl rfl rfl ?_
            refine w_cV (n := 85) (ro := none) (R := fun mM' => PM G mM' Y bs rp ln rg true ht ad hw (aT bs ln (tkE bs ln e), tkB bs ln (tkE bs ln e)) (tkE bs ln e) ∧ sm (va_up mM (49) (.inr (7, [.ref (gb_ad G 50), .int (Y 1), .ref (gb_ad G 51), .int (nI (rg)), .int (bI (true)), .int (nI (ht)), .int (nI (ad)), .int (dI hw), .ref (gb_ad G 52), .int (nI (ln)), .int (Y 10), .int (nI 0), .int (nI (ba)), .int (nI (tkE bs ln e)), .int (nI (tkB bs ln e)), .int (nI (tk)), .int (nI (va)), .ref (gb_ad G 53), .ref (gb_ad G 54), .int (Y 19), .int (Y 20), .int (Y 21), .int (Y 22), .ref (gb_ad G 55), .int (Y 24), .ref (gb_ad G 56), .int (Y 26), .ref (gb_ad G 57), .ref (gb_ad G 58), .ref (gb_ad G 59), .ref (gb_ad G 60), .int (Y 31)]))) mM' 49 49) (st := []) (st1 := []) (As := []) (b := 49) O dX7_readLine_82 ul_X7_91 um_X7_step (f_X7_step1 hW ⟨(va_up_self _ _ _), ((va_up_ne _ _ (by decide)).trans hR.2.1), ((va_up_ne _ _ (by decide)).trans hR.2.2.1), ((va_up_ne _ _ (by decide)).trans hR.2.2.2.1), ((va_up_ne _ _ (by decide)).trans hR.2.2.2.2)⟩ hln hbs (by omega) (fun M' h1 h2 => ⟨rfl, h1, h2⟩)) rfl (by omega) (va_up_self _ _ _) rfl rfl rfl rfl (by omega) (Nat.le_of_ble_eq_true rfl) rfl (fun mhM_87 hM_87 => ?_)
            obtain ⟨⟨bahM_87, sphM_87, hehM_87, tkhM_87, vahM_87, hRhM_87, hLhM_87, he9hM_87⟩, hshM_87⟩ := hM_87
            obtain ⟨hl1hM_87, hl2hM_87, hl3hM_87, hl4hM_87, hl5hM_87, hl6hM_87, hl7hM_87⟩ := id hLhM_87
            have hat := aT_le bs ln (tkE bs ln e)
            refine w_aload_n (n := 86) O dX7_readLine_85 rfl rfl rfl ?_
            refine w_getf (n := 89) O 11 dX7_readLine_86 (by omega) hRhM_87.1 rfl (by decide) uX7 uf_X7_57 rfl rfl ?_
            refine w_if_leN (n := 92) (tgt := 93) O dX7_readLine_89 (by omega) (by decide) rfl (fun c_88 => ?_) (fun c_88 => ?_)
            · skip
              refine w_aload_n (n := 94) O dX7_readLine_93 rfl rfl rfl ?_
              refine w_iload_n (n := 95) O dX7_readLine_94 rfl rfl rfl ?_
              rcases (show n ≤ 3 ∨ n = 4 ∨ n = 5 ∨ n = 6 ∨ n = 7 by omega) with hn | hn | hn | hn | hn
              · skip
                refine w_cV (n := 98) (ro := none) (R := fun mM' => ∃ q1 q2 q3 q4 q5, PM G mM' Y bs q1 ln q2 true q3 q4 q5 (orF (orF (aM bs ln 3 (tkE bs ln e), tkB bs ln (tkE bs ln e)) (orF (aN bs ln 0 9 (tkE bs ln (tkE bs ln e)), tkB bs ln (tkE bs ln (tkE bs ln e))) (aN bs ln 0 3 (tkE bs ln (tkE bs ln (tkE bs ln e))), tkB bs ln (tkE bs ln (tkE bs ln (tkE bs ln e)))))) (aTB bs ln (tkE bs ln (tkE bs ln (tkE bs ln (tkE bs ln e)))))) (tkE bs ln (tkE bs ln (tkE bs ln (tkE bs ln e)))) ∧ ((orF (orF (aM bs ln 3 (tkE bs ln e), tkB bs ln (tkE bs ln e)) (orF (aN bs ln 0 9 (tkE bs ln (tkE bs ln e)), tkB bs ln (tkE bs ln (tkE bs ln e))) (aN bs ln 0 3 (tkE bs ln (tkE bs ln (tkE bs ln e))), tkB bs ln (tkE bs ln (tkE bs ln (tkE bs ln e)))))) (aTB bs ln (tkE bs ln (tkE bs ln (tkE bs ln (tkE bs ln e)))))).1 = 0 → ZR q1 q2 true q3 q4 q5 (uGiv bs ln Z n (tkE bs ln e))) ∧ sm2 mhM_87 mM' 49 49 51 51) (st := []) (st1 := []) (As := [.int (nI (n))]) (b := 49) O dX7_readLine_95 ul_X7_127 um_X7_readMore (f_X7_rmK hW ⟨_, _, _, _, _, ⟨hRhM_87.1, hRhM_87.2.1, hRhM_87.2.2.1, hRhM_87.2.2.2.1, hRhM_87.2.2.2.2⟩, hLhM_87, he9hM_87⟩ hln hbs c_88 ⟨hz1, hz2, c_86.symm.trans hz3, hz4, hz5, hz6⟩ hok hn (by omega) (fun M' q1 q2 q3 q4 q5 h1 h2 h3 => ⟨rfl, q1, q2, q3, q4, q5, h1, h2, h3⟩)) rfl (by omega) hRhM_87.1 rfl rfl rfl rfl (by omega) (Nat.le_of_ble_eq_true rfl) rfl (fun mhM_89 hM_89 => ?_)
                obtain ⟨rphM_89, rghM_89, hthM_89, adhM_89, hwhM_89, hPhM_89, hZhM_89, hshM_89⟩ := hM_89
                obtain ⟨bahM_89, sphM_89, hehM_89, tkhM_89, vahM_89, hRhM_89, hLhM_89, he9hM_89⟩ := hPhM_89
                obtain ⟨hl1hM_89, hl2hM_89, hl3hM_89, hl4hM_89, hl5hM_89, hl6hM_89, hl7hM_89⟩ := id hLhM_89
                obtain ⟨eL1, eL2, eL3⟩ := lin_K (ln := ln) (Z := Z) (hW9.trans (show nmW (some n) = 0 from (show ∀ n, n ≤ 3 → nmW (some n) = 0 by decide) n hn)) (by omega)
                rw [hK9, show nmK (some n) = n from (show ∀ n, n ≤ 3 → nmK (some n) = n by decide) n hn] at eL3
                refine w_aload_n (n := 99) O dX7_readLine_98 rfl rfl rfl ?_
                refine w_getf (n := 102) O 11 dX7_readLine_99 (by omega) hRhM_89.1 rfl (by decide) uX7 uf_X7_57 rfl rfl ?_
                refine w_if_neN (n := 105) (tgt := 118) O dX7_readLine_102 (by omega) (by decide) rfl (fun c_90 => ?_) (fun c_90 => ?_)
                · skip
                  refine w_aload_n (n := 119) O dX7_readLine_118 rfl rfl rfl ?_
                  refine w_cV (n := 122) (ro := none) (R := fun mM' => mhM_89 = mM') (st := []) (st1 := []) (As := []) (b := 49) O dX7_readLine_119 ul_X7_91 um_X7_step (f_X7_step0 hW ⟨hRhM_89.1, hRhM_89.2.1, hRhM_89.2.2.1, hRhM_89.2.2.2.1, hRhM_89.2.2.2.2⟩ hln hbs c_90 (by omega) ⟨rfl, rfl⟩) rfl (by omega) hRhM_89.1 rfl rfl rfl rfl (by omega) (Nat.le_of_ble_eq_true rfl) rfl (fun mhM_91 hM_91 => ?_)
                  subst hM_91
                  refine w_vret O dX7_readLine_122 ?_
                  obtain ⟨f1, f2⟩ := fin_1 (X := aTB bs ln (tkE bs ln (tkE bs ln (tkE bs ln (tkE bs ln (tkE bs ln e)))))) c_90
                  have eF : orF (fLin bs ln Z (tkS bs ln e) (tkB bs ln e) (tkE bs ln e)) (aTB bs ln (eLin bs ln (tkS bs ln e) (tkB bs ln e) (tkE bs ln e))) = orF (orF (aM bs ln 3 (tkE bs ln e), tkB bs ln (tkE bs ln e)) (orF (aN bs ln 0 9 (tkE bs ln (tkE bs ln e)), tkB bs ln (tkE bs ln (tkE bs ln e))) (aN bs ln 0 3 (tkE bs ln (tkE bs ln (tkE bs ln e))), tkB bs ln (tkE bs ln (tkE bs ln (tkE bs ln e)))))) (aTB bs ln (tkE bs ln (tkE bs ln (tkE bs ln (tkE bs ln e))))) := by rw [eL1, eL2]; exact f1
                  exact hQ _ _ _ _ _ _ _ (by rw [eF, eL2]; exact ⟨_, _, _, _, _, ⟨hRhM_89.1, hRhM_89.2.1, hRhM_89.2.2.1, hRhM_89.2.2.2.1, hRhM_89.2.2.2.2⟩, ⟨hl1hM_89, hl2hM_89, hl3hM_89, hl4hM_89, hl5hM_89, hl6hM_89, fun z => absurd z c_90⟩, tkE_le he9hM_89⟩) (fun z => absurd z (by rw [eL1]; exact f2)) (((sm2.rf.up (by omega)).tr (sm.l hshM_87)).tr hshM_89)
                · skip
                  obtain ⟨q1, q2, q3, q4⟩ := hl7hM_89 c_90
                  subst q1
                  subst q2
                  have hR0 := hRhM_89
                  rw [c_90] at hR0
                  have hq4 := tkS_le bs ln (tkE bs ln (tkE bs ln (tkE bs ln (tkE bs ln e))))
                  refine w_aload_n (n := 106) O dX7_readLine_105 rfl rfl rfl ?_
                  refine w_getf (n := 109) O 15 dX7_readLine_106 (by omega) hR0.1 rfl (by decide) uX7 uf_X7_66 rfl rfl ?_
                  refine w_iconst (n := 110) O dX7_readLine_109 (v := (nI 3)) (by decide) rfl ?_
                  refine w_icmp_eqN (n := 113) (tgt := 118) O dX7_readLine_110 (by omega) (by omega) (by decide) rfl (fun c_92 => ?_) (fun c_92 => ?_)
                  · skip
                    refine w_aload_n (n := 119) O dX7_readLine_118 rfl rfl rfl ?_
                    refine w_cV (n := 122) (ro := none) (R := fun mM' => PM G mM' Y bs rphM_89 ln rghM_89 true hthM_89 adhM_89 hwhM_89 (aT bs ln (tkE bs ln (tkE bs ln (tkE bs ln (tkE bs ln (tkE bs ln e))))), tkB bs ln (tkE bs ln (tkE bs ln (tkE bs ln (tkE bs ln (tkE bs ln e)))))) (tkE bs ln (tkE bs ln (tkE bs ln (tkE bs ln (tkE bs ln e))))) ∧ sm mhM_89 mM' 49 49) (st := []) (st1 := []) (As := []) (b := 49) O dX7_readLine_119 ul_X7_91 um_X7_step (f_X7_step1 hW ⟨hR0.1, hR0.2.1, hR0.2.2.1, hR0.2.2.2.1, hR0.2.2.2.2⟩ hln hbs (by omega) (fun M' h1 h2 => ⟨rfl, h1, h2⟩)) rfl (by omega) hR0.1 rfl rfl rfl rfl (by omega) (Nat.le_of_ble_eq_true rfl) rfl (fun mhM_93 hM_93 => ?_)
                    obtain ⟨⟨bahM_93, sphM_93, hehM_93, tkhM_93, vahM_93, hRhM_93, hLhM_93, he9hM_93⟩, hshM_93⟩ := hM_93
                    obtain ⟨hl1hM_93, hl2hM_93, hl3hM_93, hl4hM_93, hl5hM_93, hl6hM_93, hl7hM_93⟩ := id hLhM_93
                    refine w_vret O dX7_readLine_122 ?_
                    have hz0 := (orF_z c_90).1
                    have eF : orF (fLin bs ln Z (tkS bs ln e) (tkB bs ln e) (tkE bs ln e)) (aTB bs ln (eLin bs ln (tkS bs ln e) (tkB bs ln e) (tkE bs ln e))) = aTB bs ln (tkE bs ln (tkE bs ln (tkE bs ln (tkE bs ln (tkE bs ln e))))) := by rw [eL1, eL2]; exact fin_2 hz0 (by omega)
                    exact hQ _ _ _ _ _ _ _ (by rw [eF, eL2]; exact ⟨_, _, _, _, _, ⟨hRhM_93.1, hRhM_93.2.1, hRhM_93.2.2.1, hRhM_93.2.2.2.1, hRhM_93.2.2.2.2⟩, hLhM_93, he9hM_93⟩) (fun _ => by rw [eL3]; exact hZhM_89 c_90) ((((sm2.rf.up (by omega)).tr (sm.l hshM_87)).tr hshM_89).tr (sm.l hshM_93))
                  · skip
                    refine w_aload_n (n := 114) O dX7_readLine_113 rfl rfl rfl ?_
                    refine w_iconst (n := 115) O dX7_readLine_114 (v := (nI 2)) (by decide) rfl ?_
                    refine w_cV (n := 118) (ro := none) (R := fun mM' => isR G mM' Y bs rphM_89 ln rghM_89 true hthM_89 adhM_89 hwhM_89 2 (tkB bs ln (tkE bs ln (tkE bs ln (tkE bs ln (tkE bs ln e))))) (tkE bs ln (tkE bs ln (tkE bs ln (tkE bs ln (tkE bs ln e))))) (tkB bs ln (tkE bs ln (tkE bs ln (tkE bs ln (tkE bs ln e))))) tkhM_89 vahM_89 ∧ sm mhM_89 mM' 49 49) (st := []) (st1 := []) (As := [.int (nI 2)]) (b := 49) O dX7_readLine_115 ul_X7_87 um_X7_fails (f_X7_fails hW ⟨hR0.1, hR0.2.1, hR0.2.2.1, hR0.2.2.2.1, hR0.2.2.2.2⟩ hln hbs (fun M' h1 h2 => ⟨rfl, h1, h2⟩)) rfl (by omega) hR0.1 rfl rfl rfl rfl (by omega) (Nat.le_of_ble_eq_true rfl) rfl (fun mhM_94 hM_94 => ?_)
                    obtain ⟨hRhM_94, hshM_94⟩ := hM_94
                    refine w_aload_n (n := 119) O dX7_readLine_118 rfl rfl rfl ?_
                    refine w_cV (n := 122) (ro := none) (R := fun mM' => mhM_94 = mM') (st := []) (st1 := []) (As := []) (b := 49) O dX7_readLine_119 ul_X7_91 um_X7_step (f_X7_step0 hW ⟨hRhM_94.1, hRhM_94.2.1, hRhM_94.2.2.1, hRhM_94.2.2.2.1, hRhM_94.2.2.2.2⟩ hln hbs (by decide) (by omega) ⟨rfl, rfl⟩) rfl (by omega) hRhM_94.1 rfl rfl rfl rfl (by omega) (Nat.le_of_ble_eq_true rfl) rfl (fun mhM_95 hM_95 => ?_)
                    subst hM_95
                    refine w_vret O dX7_readLine_122 ?_
                    have hz0 := (orF_z c_90).1
                    obtain ⟨f1, f2⟩ := fin_3 (X := aTB bs ln (tkE bs ln (tkE bs ln (tkE bs ln (tkE bs ln (tkE bs ln e)))))) hz0 (by omega) (show ¬ tkS bs ln (tkE bs ln (tkE bs ln (tkE bs ln (tkE bs ln e)))) = 4 by omega)
                    have eF : orF (fLin bs ln Z (tkS bs ln e) (tkB bs ln e) (tkE bs ln e)) (aTB bs ln (eLin bs ln (tkS bs ln e) (tkB bs ln e) (tkE bs ln e))) = (2, tkB bs ln (tkE bs ln (tkE bs ln (tkE bs ln (tkE bs ln e))))) := by rw [eL1, eL2]; exact f1
                    exact hQ _ _ _ _ _ _ _ (by rw [eF, eL2]; exact ⟨_, _, _, _, _, ⟨hRhM_94.1, hRhM_94.2.1, hRhM_94.2.2.1, hRhM_94.2.2.2.1, hRhM_94.2.2.2.2⟩, ⟨hl1hM_89, hl2hM_89, hl3hM_89, hl4hM_89, (show 2 ≤ 6 by decide), (fun _ => rfl), (fun z => absurd z (show ¬ 2 = 0 by decide))⟩, tkE_le he9hM_89⟩) (fun z => absurd z (by rw [eL1]; exact f2)) ((((sm2.rf.up (by omega)).tr (sm.l hshM_87)).tr hshM_89).tr (sm.l hshM_94))
              · skip
                subst hn
                refine w_cV (n := 98) (ro := none) (R := fun mM' => ∃ q1 q2 q3 q4 q5, PM G mM' Y bs q1 ln q2 true q3 q4 q5 (orF (fSor bs ln Z (tkE bs ln e)) (aTB bs ln (tkE bs ln (tkE bs ln e)))) (tkE bs ln (tkE bs ln e)) ∧ ((orF (fSor bs ln Z (tkE bs ln e)) (aTB bs ln (tkE bs ln (tkE bs ln e)))).1 = 0 → ZR q1 q2 true q3 q4 q5 (uSor bs ln Z (tkE bs ln e))) ∧ sm2 mhM_87 mM' 49 49 51 51) (st := []) (st1 := []) (As := [.int (nI 4)]) (b := 49) O dX7_readLine_95 ul_X7_127 um_X7_readMore (f_X7_rmS hW ⟨_, _, _, _, _, ⟨hRhM_87.1, hRhM_87.2.1, hRhM_87.2.2.1, hRhM_87.2.2.2.1, hRhM_87.2.2.2.2⟩, hLhM_87, he9hM_87⟩ hln hbs c_88 ⟨hz1, hz2, c_86.symm.trans hz3, hz4, hz5, hz6⟩ hok (fun M' q1 q2 q3 q4 q5 h1 h2 h3 => ⟨rfl, q1, q2, q3, q4, q5, h1, h2, h3⟩)) rfl (by omega) hRhM_87.1 rfl rfl rfl rfl (by omega) (Nat.le_of_ble_eq_true rfl) rfl (fun mhM_96 hM_96 => ?_)
                obtain ⟨rphM_96, rghM_96, hthM_96, adhM_96, hwhM_96, hPhM_96, hZhM_96, hshM_96⟩ := hM_96
                obtain ⟨bahM_96, sphM_96, hehM_96, tkhM_96, vahM_96, hRhM_96, hLhM_96, he9hM_96⟩ := hPhM_96
                obtain ⟨hl1hM_96, hl2hM_96, hl3hM_96, hl4hM_96, hl5hM_96, hl6hM_96, hl7hM_96⟩ := id hLhM_96
                obtain ⟨eL1, eL2, eL3⟩ := lin_S (ln := ln) (Z := Z) hW9
                refine w_aload_n (n := 99) O dX7_readLine_98 rfl rfl rfl ?_
                refine w_getf (n := 102) O 11 dX7_readLine_99 (by omega) hRhM_96.1 rfl (by decide) uX7 uf_X7_57 rfl rfl ?_
                refine w_if_neN (n := 105) (tgt := 118) O dX7_readLine_102 (by omega) (by decide) rfl (fun c_97 => ?_) (fun c_97 => ?_)
                · skip
                  refine w_aload_n (n := 119) O dX7_readLine_118 rfl rfl rfl ?_
                  refine w_cV (n := 122) (ro := none) (R := fun mM' => mhM_96 = mM') (st := []) (st1 := []) (As := []) (b := 49) O dX7_readLine_119 ul_X7_91 um_X7_step (f_X7_step0 hW ⟨hRhM_96.1, hRhM_96.2.1, hRhM_96.2.2.1, hRhM_96.2.2.2.1, hRhM_96.2.2.2.2⟩ hln hbs c_97 (by omega) ⟨rfl, rfl⟩) rfl (by omega) hRhM_96.1 rfl rfl rfl rfl (by omega) (Nat.le_of_ble_eq_true rfl) rfl (fun mhM_98 hM_98 => ?_)
                  subst hM_98
                  refine w_vret O dX7_readLine_122 ?_
                  obtain ⟨f1, f2⟩ := fin_1 (X := aTB bs ln (tkE bs ln (tkE bs ln (tkE bs ln e)))) c_97
                  have eF : orF (fLin bs ln Z (tkS bs ln e) (tkB bs ln e) (tkE bs ln e)) (aTB bs ln (eLin bs ln (tkS bs ln e) (tkB bs ln e) (tkE bs ln e))) = orF (fSor bs ln Z (tkE bs ln e)) (aTB bs ln (tkE bs ln (tkE bs ln e))) := by rw [eL1, eL2]; exact f1
                  exact hQ _ _ _ _ _ _ _ (by rw [eF, eL2]; exact ⟨_, _, _, _, _, ⟨hRhM_96.1, hRhM_96.2.1, hRhM_96.2.2.1, hRhM_96.2.2.2.1, hRhM_96.2.2.2.2⟩, ⟨hl1hM_96, hl2hM_96, hl3hM_96, hl4hM_96, hl5hM_96, hl6hM_96, fun z => absurd z c_97⟩, tkE_le he9hM_96⟩) (fun z => absurd z (by rw [eL1]; exact f2)) (((sm2.rf.up (by omega)).tr (sm.l hshM_87)).tr hshM_96)
                · skip
                  obtain ⟨q1, q2, q3, q4⟩ := hl7hM_96 c_97
                  subst q1
                  subst q2
                  have hR0 := hRhM_96
                  rw [c_97] at hR0
                  have hq4 := tkS_le bs ln (tkE bs ln (tkE bs ln e))
                  refine w_aload_n (n := 106) O dX7_readLine_105 rfl rfl rfl ?_
                  refine w_getf (n := 109) O 15 dX7_readLine_106 (by omega) hR0.1 rfl (by decide) uX7 uf_X7_66 rfl rfl ?_
                  refine w_iconst (n := 110) O dX7_readLine_109 (v := (nI 3)) (by decide) rfl ?_
                  refine w_icmp_eqN (n := 113) (tgt := 118) O dX7_readLine_110 (by omega) (by omega) (by decide) rfl (fun c_99 => ?_) (fun c_99 => ?_)
                  · skip
                    refine w_aload_n (n := 119) O dX7_readLine_118 rfl rfl rfl ?_
                    refine w_cV (n := 122) (ro := none) (R := fun mM' => PM G mM' Y bs rphM_96 ln rghM_96 true hthM_96 adhM_96 hwhM_96 (aT bs ln (tkE bs ln (tkE bs ln (tkE bs ln e))), tkB bs ln (tkE bs ln (tkE bs ln (tkE bs ln e)))) (tkE bs ln (tkE bs ln (tkE bs ln e))) ∧ sm mhM_96 mM' 49 49) (st := []) (st1 := []) (As := []) (b := 49) O dX7_readLine_119 ul_X7_91 um_X7_step (f_X7_step1 hW ⟨hR0.1, hR0.2.1, hR0.2.2.1, hR0.2.2.2.1, hR0.2.2.2.2⟩ hln hbs (by omega) (fun M' h1 h2 => ⟨rfl, h1, h2⟩)) rfl (by omega) hR0.1 rfl rfl rfl rfl (by omega) (Nat.le_of_ble_eq_true rfl) rfl (fun mhM_100 hM_100 => ?_)
                    obtain ⟨⟨bahM_100, sphM_100, hehM_100, tkhM_100, vahM_100, hRhM_100, hLhM_100, he9hM_100⟩, hshM_100⟩ := hM_100
                    obtain ⟨hl1hM_100, hl2hM_100, hl3hM_100, hl4hM_100, hl5hM_100, hl6hM_100, hl7hM_100⟩ := id hLhM_100
                    refine w_vret O dX7_readLine_122 ?_
                    have hz0 := (orF_z c_97).1
                    have eF : orF (fLin bs ln Z (tkS bs ln e) (tkB bs ln e) (tkE bs ln e)) (aTB bs ln (eLin bs ln (tkS bs ln e) (tkB bs ln e) (tkE bs ln e))) = aTB bs ln (tkE bs ln (tkE bs ln (tkE bs ln e))) := by rw [eL1, eL2]; exact fin_2 hz0 (by omega)
                    exact hQ _ _ _ _ _ _ _ (by rw [eF, eL2]; exact ⟨_, _, _, _, _, ⟨hRhM_100.1, hRhM_100.2.1, hRhM_100.2.2.1, hRhM_100.2.2.2.1, hRhM_100.2.2.2.2⟩, hLhM_100, he9hM_100⟩) (fun _ => by rw [eL3]; exact hZhM_96 c_97) ((((sm2.rf.up (by omega)).tr (sm.l hshM_87)).tr hshM_96).tr (sm.l hshM_100))
                  · skip
                    refine w_aload_n (n := 114) O dX7_readLine_113 rfl rfl rfl ?_
                    refine w_iconst (n := 115) O dX7_readLine_114 (v := (nI 2)) (by decide) rfl ?_
                    refine w_cV (n := 118) (ro := none) (R := fun mM' => isR G mM' Y bs rphM_96 ln rghM_96 true hthM_96 adhM_96 hwhM_96 2 (tkB bs ln (tkE bs ln (tkE bs ln e))) (tkE bs ln (tkE bs ln (tkE bs ln e))) (tkB bs ln (tkE bs ln (tkE bs ln e))) tkhM_96 vahM_96 ∧ sm mhM_96 mM' 49 49) (st := []) (st1 := []) (As := [.int (nI 2)]) (b := 49) O dX7_readLine_115 ul_X7_87 um_X7_fails (f_X7_fails hW ⟨hR0.1, hR0.2.1, hR0.2.2.1, hR0.2.2.2.1, hR0.2.2.2.2⟩ hln hbs (fun M' h1 h2 => ⟨rfl, h1, h2⟩)) rfl (by omega) hR0.1 rfl rfl rfl rfl (by omega) (Nat.le_of_ble_eq_true rfl) rfl (fun mhM_101 hM_101 => ?_)
                    obtain ⟨hRhM_101, hshM_101⟩ := hM_101
                    refine w_aload_n (n := 119) O dX7_readLine_118 rfl rfl rfl ?_
                    refine w_cV (n := 122) (ro := none) (R := fun mM' => mhM_101 = mM') (st := []) (st1 := []) (As := []) (b := 49) O dX7_readLine_119 ul_X7_91 um_X7_step (f_X7_step0 hW ⟨hRhM_101.1, hRhM_101.2.1, hRhM_101.2.2.1, hRhM_101.2.2.2.1, hRhM_101.2.2.2.2⟩ hln hbs (by decide) (by omega) ⟨rfl, rfl⟩) rfl (by omega) hRhM_101.1 rfl rfl rfl rfl (by omega) (Nat.le_of_ble_eq_true rfl) rfl (fun mhM_102 hM_102 => ?_)
                    subst hM_102
                    refine w_vret O dX7_readLine_122 ?_
                    have hz0 := (orF_z c_97).1
                    obtain ⟨f1, f2⟩ := fin_3 (X := aTB bs ln (tkE bs ln (tkE bs ln (tkE bs ln e)))) hz0 (by omega) (show ¬ tkS bs ln (tkE bs ln (tkE bs ln e)) = 4 by omega)
                    have eF : orF (fLin bs ln Z (tkS bs ln e) (tkB bs ln e) (tkE bs ln e)) (aTB bs ln (eLin bs ln (tkS bs ln e) (tkB bs ln e) (tkE bs ln e))) = (2, tkB bs ln (tkE bs ln (tkE bs ln e))) := by rw [eL1, eL2]; exact f1
                    exact hQ _ _ _ _ _ _ _ (by rw [eF, eL2]; exact ⟨_, _, _, _, _, ⟨hRhM_101.1, hRhM_101.2.1, hRhM_101.2.2.1, hRhM_101.2.2.2.1, hRhM_101.2.2.2.2⟩, ⟨hl1hM_96, hl2hM_96, hl3hM_96, hl4hM_96, (show 2 ≤ 6 by decide), (fun _ => rfl), (fun z => absurd z (show ¬ 2 = 0 by decide))⟩, tkE_le he9hM_96⟩) (fun z => absurd z (by rw [eL1]; exact f2)) ((((sm2.rf.up (by omega)).tr (sm.l hshM_87)).tr hshM_96).tr (sm.l hshM_101))
              · skip
                subst hn
                refine w_cV (n := 98) (ro := none) (R := fun mM' => ∃ q1 q2 q3 q4 q5, PM G mM' Y bs q1 ln q2 true q3 q4 q5 (orF (fHol bs ln Z (tkE bs ln e)) (aTB bs ln (tkE bs ln (tkE bs ln (tkE bs ln e))))) (tkE bs ln (tkE bs ln (tkE bs ln e))) ∧ ((orF (fHol bs ln Z (tkE bs ln e)) (aTB bs ln (tkE bs ln (tkE bs ln (tkE bs ln e))))).1 = 0 → ZR q1 q2 true q3 q4 q5 (uHol bs ln Z (tkE bs ln e))) ∧ sm2 mhM_87 mM' 49 49 51 51) (st := []) (st1 := []) (As := [.int (nI 5)]) (b := 49) O dX7_readLine_95 ul_X7_127 um_X7_readMore (f_X7_rmH hW ⟨_, _, _, _, _, ⟨hRhM_87.1, hRhM_87.2.1, hRhM_87.2.2.1, hRhM_87.2.2.2.1, hRhM_87.2.2.2.2⟩, hLhM_87, he9hM_87⟩ hln hbs c_88 ⟨hz1, hz2, c_86.symm.trans hz3, hz4, hz5, hz6⟩ hok (fun M' q1 q2 q3 q4 q5 h1 h2 h3 => ⟨rfl, q1, q2, q3, q4, q5, h1, h2, h3⟩)) rfl (by omega) hRhM_87.1 rfl rfl rfl rfl (by omega) (Nat.le_of_ble_eq_true rfl) rfl (fun mhM_103 hM_103 => ?_)
                obtain ⟨rphM_103, rghM_103, hthM_103, adhM_103, hwhM_103, hPhM_103, hZhM_103, hshM_103⟩ := hM_103
                obtain ⟨bahM_103, sphM_103, hehM_103, tkhM_103, vahM_103, hRhM_103, hLhM_103, he9hM_103⟩ := hPhM_103
                obtain ⟨hl1hM_103, hl2hM_103, hl3hM_103, hl4hM_103, hl5hM_103, hl6hM_103, hl7hM_103⟩ := id hLhM_103
                obtain ⟨eL1, eL2, eL3⟩ := lin_H (ln := ln) (Z := Z) hW9
                refine w_aload_n (n := 99) O dX7_readLine_98 rfl rfl rfl ?_
                refine w_getf (n := 102) O 11 dX7_readLine_99 (by omega) hRhM_103.1 rfl (by decide) uX7 uf_X7_57 rfl rfl ?_
                refine w_if_neN (n := 105) (tgt := 118) O dX7_readLine_102 (by omega) (by decide) rfl (fun c_104 => ?_) (fun c_104 => ?_)
                · skip
                  refine w_aload_n (n := 119) O dX7_readLine_118 rfl rfl rfl ?_
                  refine w_cV (n := 122) (ro := none) (R := fun mM' => mhM_103 = mM') (st := []) (st1 := []) (As := []) (b := 49) O dX7_readLine_119 ul_X7_91 um_X7_step (f_X7_step0 hW ⟨hRhM_103.1, hRhM_103.2.1, hRhM_103.2.2.1, hRhM_103.2.2.2.1, hRhM_103.2.2.2.2⟩ hln hbs c_104 (by omega) ⟨rfl, rfl⟩) rfl (by omega) hRhM_103.1 rfl rfl rfl rfl (by omega) (Nat.le_of_ble_eq_true rfl) rfl (fun mhM_105 hM_105 => ?_)
                  subst hM_105
                  refine w_vret O dX7_readLine_122 ?_
                  obtain ⟨f1, f2⟩ := fin_1 (X := aTB bs ln (tkE bs ln (tkE bs ln (tkE bs ln (tkE bs ln e))))) c_104
                  have eF : orF (fLin bs ln Z (tkS bs ln e) (tkB bs ln e) (tkE bs ln e)) (aTB bs ln (eLin bs ln (tkS bs ln e) (tkB bs ln e) (tkE bs ln e))) = orF (fHol bs ln Z (tkE bs ln e)) (aTB bs ln (tkE bs ln (tkE bs ln (tkE bs ln e)))) := by rw [eL1, eL2]; exact f1
                  exact hQ _ _ _ _ _ _ _ (by rw [eF, eL2]; exact ⟨_, _, _, _, _, ⟨hRhM_103.1, hRhM_103.2.1, hRhM_103.2.2.1, hRhM_103.2.2.2.1, hRhM_103.2.2.2.2⟩, ⟨hl1hM_103, hl2hM_103, hl3hM_103, hl4hM_103, hl5hM_103, hl6hM_103, fun z => absurd z c_104⟩, tkE_le he9hM_103⟩) (fun z => absurd z (by rw [eL1]; exact f2)) (((sm2.rf.up (by omega)).tr (sm.l hshM_87)).tr hshM_103)
                · skip
                  obtain ⟨q1, q2, q3, q4⟩ := hl7hM_103 c_104
                  subst q1
                  subst q2
                  have hR0 := hRhM_103
                  rw [c_104] at hR0
                  have hq4 := tkS_le bs ln (tkE bs ln (tkE bs ln (tkE bs ln e)))
                  refine w_aload_n (n := 106) O dX7_readLine_105 rfl rfl rfl ?_
                  refine w_getf (n := 109) O 15 dX7_readLine_106 (by omega) hR0.1 rfl (by decide) uX7 uf_X7_66 rfl rfl ?_
                  refine w_iconst (n := 110) O dX7_readLine_109 (v := (nI 3)) (by decide) rfl ?_
                  refine w_icmp_eqN (n := 113) (tgt := 118) O dX7_readLine_110 (by omega) (by omega) (by decide) rfl (fun c_106 => ?_) (fun c_106 => ?_)
                  · skip
                    refine w_aload_n (n := 119) O dX7_readLine_118 rfl rfl rfl ?_
                    refine w_cV (n := 122) (ro := none) (R := fun mM' => PM G mM' Y bs rphM_103 ln rghM_103 true hthM_103 adhM_103 hwhM_103 (aT bs ln (tkE bs ln (tkE bs ln (tkE bs ln (tkE bs ln e)))), tkB bs ln (tkE bs ln (tkE bs ln (tkE bs ln (tkE bs ln e))))) (tkE bs ln (tkE bs ln (tkE bs ln (tkE bs ln e)))) ∧ sm mhM_103 mM' 49 49) (st := []) (st1 := []) (As := []) (b := 49) O dX7_readLine_119 ul_X7_91 um_X7_step (f_X7_step1 hW ⟨hR0.1, hR0.2.1, hR0.2.2.1, hR0.2.2.2.1, hR0.2.2.2.2⟩ hln hbs (by omega) (fun M' h1 h2 => ⟨rfl, h1, h2⟩)) rfl (by omega) hR0.1 rfl rfl rfl rfl (by omega) (Nat.le_of_ble_eq_true rfl) rfl (fun mhM_107 hM_107 => ?_)
                    obtain ⟨⟨bahM_107, sphM_107, hehM_107, tkhM_107, vahM_107, hRhM_107, hLhM_107, he9hM_107⟩, hshM_107⟩ := hM_107
                    obtain ⟨hl1hM_107, hl2hM_107, hl3hM_107, hl4hM_107, hl5hM_107, hl6hM_107, hl7hM_107⟩ := id hLhM_107
                    refine w_vret O dX7_readLine_122 ?_
                    have hz0 := (orF_z c_104).1
                    have eF : orF (fLin bs ln Z (tkS bs ln e) (tkB bs ln e) (tkE bs ln e)) (aTB bs ln (eLin bs ln (tkS bs ln e) (tkB bs ln e) (tkE bs ln e))) = aTB bs ln (tkE bs ln (tkE bs ln (tkE bs ln (tkE bs ln e)))) := by rw [eL1, eL2]; exact fin_2 hz0 (by omega)
                    exact hQ _ _ _ _ _ _ _ (by rw [eF, eL2]; exact ⟨_, _, _, _, _, ⟨hRhM_107.1, hRhM_107.2.1, hRhM_107.2.2.1, hRhM_107.2.2.2.1, hRhM_107.2.2.2.2⟩, hLhM_107, he9hM_107⟩) (fun _ => by rw [eL3]; exact hZhM_103 c_104) ((((sm2.rf.up (by omega)).tr (sm.l hshM_87)).tr hshM_103).tr (sm.l hshM_107))
                  · skip
                    refine w_aload_n (n := 114) O dX7_readLine_113 rfl rfl rfl ?_
                    refine w_iconst (n := 115) O dX7_readLine_114 (v := (nI 2)) (by decide) rfl ?_
                    refine w_cV (n := 118) (ro := none) (R := fun mM' => isR G mM' Y bs rphM_103 ln rghM_103 true hthM_103 adhM_103 hwhM_103 2 (tkB bs ln (tkE bs ln (tkE bs ln (tkE bs ln e)))) (tkE bs ln (tkE bs ln (tkE bs ln (tkE bs ln e)))) (tkB bs ln (tkE bs ln (tkE bs ln (tkE bs ln e)))) tkhM_103 vahM_103 ∧ sm mhM_103 mM' 49 49) (st := []) (st1 := []) (As := [.int (nI 2)]) (b := 49) O dX7_readLine_115 ul_X7_87 um_X7_fails (f_X7_fails hW ⟨hR0.1, hR0.2.1, hR0.2.2.1, hR0.2.2.2.1, hR0.2.2.2.2⟩ hln hbs (fun M' h1 h2 => ⟨rfl, h1, h2⟩)) rfl (by omega) hR0.1 rfl rfl rfl rfl (by omega) (Nat.le_of_ble_eq_true rfl) rfl (fun mhM_108 hM_108 => ?_)
                    obtain ⟨hRhM_108, hshM_108⟩ := hM_108
                    refine w_aload_n (n := 119) O dX7_readLine_118 rfl rfl rfl ?_
                    refine w_cV (n := 122) (ro := none) (R := fun mM' => mhM_108 = mM') (st := []) (st1 := []) (As := []) (b := 49) O dX7_readLine_119 ul_X7_91 um_X7_step (f_X7_step0 hW ⟨hRhM_108.1, hRhM_108.2.1, hRhM_108.2.2.1, hRhM_108.2.2.2.1, hRhM_108.2.2.2.2⟩ hln hbs (by decide) (by omega) ⟨rfl, rfl⟩) rfl (by omega) hRhM_108.1 rfl rfl rfl rfl (by omega) (Nat.le_of_ble_eq_true rfl) rfl (fun mhM_109 hM_109 => ?_)
                    subst hM_109
                    refine w_vret O dX7_readLine_122 ?_
                    have hz0 := (orF_z c_104).1
                    obtain ⟨f1, f2⟩ := fin_3 (X := aTB bs ln (tkE bs ln (tkE bs ln (tkE bs ln (tkE bs ln e))))) hz0 (by omega) (show ¬ tkS bs ln (tkE bs ln (tkE bs ln (tkE bs ln e))) = 4 by omega)
                    have eF : orF (fLin bs ln Z (tkS bs ln e) (tkB bs ln e) (tkE bs ln e)) (aTB bs ln (eLin bs ln (tkS bs ln e) (tkB bs ln e) (tkE bs ln e))) = (2, tkB bs ln (tkE bs ln (tkE bs ln (tkE bs ln e)))) := by rw [eL1, eL2]; exact f1
                    exact hQ _ _ _ _ _ _ _ (by rw [eF, eL2]; exact ⟨_, _, _, _, _, ⟨hRhM_108.1, hRhM_108.2.1, hRhM_108.2.2.1, hRhM_108.2.2.2.1, hRhM_108.2.2.2.2⟩, ⟨hl1hM_103, hl2hM_103, hl3hM_103, hl4hM_103, (show 2 ≤ 6 by decide), (fun _ => rfl), (fun z => absurd z (show ¬ 2 = 0 by decide))⟩, tkE_le he9hM_103⟩) (fun z => absurd z (by rw [eL1]; exact f2)) ((((sm2.rf.up (by omega)).tr (sm.l hshM_87)).tr hshM_103).tr (sm.l hshM_108))
              · skip
                subst hn
                refine w_cV (n := 98) (ro := none) (R := fun mM' => ∃ q1 q2 q3 q4 q5, PM G mM' Y bs q1 ln q2 true q3 q4 q5 (orF (fAdd bs ln Z (tkE bs ln e)) (aTB bs ln (tkE bs ln (tkE bs ln (tkE bs ln e))))) (tkE bs ln (tkE bs ln (tkE bs ln e))) ∧ ((orF (fAdd bs ln Z (tkE bs ln e)) (aTB bs ln (tkE bs ln (tkE bs ln (tkE bs ln e))))).1 = 0 → ZR q1 q2 true q3 q4 q5 (uAdd bs ln Z (tkE bs ln e))) ∧ sm2 mhM_87 mM' 49 49 51 51) (st := []) (st1 := []) (As := [.int (nI 6)]) (b := 49) O dX7_readLine_95 ul_X7_127 um_X7_readMore (f_X7_rmA hW ⟨_, _, _, _, _, ⟨hRhM_87.1, hRhM_87.2.1, hRhM_87.2.2.1, hRhM_87.2.2.2.1, hRhM_87.2.2.2.2⟩, hLhM_87, he9hM_87⟩ hln hbs c_88 ⟨hz1, hz2, c_86.symm.trans hz3, hz4, hz5, hz6⟩ hok (fun M' q1 q2 q3 q4 q5 h1 h2 h3 => ⟨rfl, q1, q2, q3, q4, q5, h1, h2, h3⟩)) rfl (by omega) hRhM_87.1 rfl rfl rfl rfl (by omega) (Nat.le_of_ble_eq_true rfl) rfl (fun mhM_110 hM_110 => ?_)
                obtain ⟨rphM_110, rghM_110, hthM_110, adhM_110, hwhM_110, hPhM_110, hZhM_110, hshM_110⟩ := hM_110
                obtain ⟨bahM_110, sphM_110, hehM_110, tkhM_110, vahM_110, hRhM_110, hLhM_110, he9hM_110⟩ := hPhM_110
                obtain ⟨hl1hM_110, hl2hM_110, hl3hM_110, hl4hM_110, hl5hM_110, hl6hM_110, hl7hM_110⟩ := id hLhM_110
                obtain ⟨eL1, eL2, eL3⟩ := lin_A (ln := ln) (Z := Z) hW9
                refine w_aload_n (n := 99) O dX7_readLine_98 rfl rfl rfl ?_
                refine w_getf (n := 102) O 11 dX7_readLine_99 (by omega) hRhM_110.1 rfl (by decide) uX7 uf_X7_57 rfl rfl ?_
                refine w_if_neN (n := 105) (tgt := 118) O dX7_readLine_102 (by omega) (by decide) rfl (fun c_111 => ?_) (fun c_111 => ?_)
                · skip
                  refine w_aload_n (n := 119) O dX7_readLine_118 rfl rfl rfl ?_
                  refine w_cV (n := 122) (ro := none) (R := fun mM' => mhM_110 = mM') (st := []) (st1 := []) (As := []) (b := 49) O dX7_readLine_119 ul_X7_91 um_X7_step (f_X7_step0 hW ⟨hRhM_110.1, hRhM_110.2.1, hRhM_110.2.2.1, hRhM_110.2.2.2.1, hRhM_110.2.2.2.2⟩ hln hbs c_111 (by omega) ⟨rfl, rfl⟩) rfl (by omega) hRhM_110.1 rfl rfl rfl rfl (by omega) (Nat.le_of_ble_eq_true rfl) rfl (fun mhM_112 hM_112 => ?_)
                  subst hM_112
                  refine w_vret O dX7_readLine_122 ?_
                  obtain ⟨f1, f2⟩ := fin_1 (X := aTB bs ln (tkE bs ln (tkE bs ln (tkE bs ln (tkE bs ln e))))) c_111
                  have eF : orF (fLin bs ln Z (tkS bs ln e) (tkB bs ln e) (tkE bs ln e)) (aTB bs ln (eLin bs ln (tkS bs ln e) (tkB bs ln e) (tkE bs ln e))) = orF (fAdd bs ln Z (tkE bs ln e)) (aTB bs ln (tkE bs ln (tkE bs ln (tkE bs ln e)))) := by rw [eL1, eL2]; exact f1
                  exact hQ _ _ _ _ _ _ _ (by rw [eF, eL2]; exact ⟨_, _, _, _, _, ⟨hRhM_110.1, hRhM_110.2.1, hRhM_110.2.2.1, hRhM_110.2.2.2.1, hRhM_110.2.2.2.2⟩, ⟨hl1hM_110, hl2hM_110, hl3hM_110, hl4hM_110, hl5hM_110, hl6hM_110, fun z => absurd z c_111⟩, tkE_le he9hM_110⟩) (fun z => absurd z (by rw [eL1]; exact f2)) (((sm2.rf.up (by omega)).tr (sm.l hshM_87)).tr hshM_110)
                · skip
                  obtain ⟨q1, q2, q3, q4⟩ := hl7hM_110 c_111
                  subst q1
                  subst q2
                  have hR0 := hRhM_110
                  rw [c_111] at hR0
                  have hq4 := tkS_le bs ln (tkE bs ln (tkE bs ln (tkE bs ln e)))
                  refine w_aload_n (n := 106) O dX7_readLine_105 rfl rfl rfl ?_
                  refine w_getf (n := 109) O 15 dX7_readLine_106 (by omega) hR0.1 rfl (by decide) uX7 uf_X7_66 rfl rfl ?_
                  refine w_iconst (n := 110) O dX7_readLine_109 (v := (nI 3)) (by decide) rfl ?_
                  refine w_icmp_eqN (n := 113) (tgt := 118) O dX7_readLine_110 (by omega) (by omega) (by decide) rfl (fun c_113 => ?_) (fun c_113 => ?_)
                  · skip
                    refine w_aload_n (n := 119) O dX7_readLine_118 rfl rfl rfl ?_
                    refine w_cV (n := 122) (ro := none) (R := fun mM' => PM G mM' Y bs rphM_110 ln rghM_110 true hthM_110 adhM_110 hwhM_110 (aT bs ln (tkE bs ln (tkE bs ln (tkE bs ln (tkE bs ln e)))), tkB bs ln (tkE bs ln (tkE bs ln (tkE bs ln (tkE bs ln e))))) (tkE bs ln (tkE bs ln (tkE bs ln (tkE bs ln e)))) ∧ sm mhM_110 mM' 49 49) (st := []) (st1 := []) (As := []) (b := 49) O dX7_readLine_119 ul_X7_91 um_X7_step (f_X7_step1 hW ⟨hR0.1, hR0.2.1, hR0.2.2.1, hR0.2.2.2.1, hR0.2.2.2.2⟩ hln hbs (by omega) (fun M' h1 h2 => ⟨rfl, h1, h2⟩)) rfl (by omega) hR0.1 rfl rfl rfl rfl (by omega) (Nat.le_of_ble_eq_true rfl) rfl (fun mhM_114 hM_114 => ?_)
                    obtain ⟨⟨bahM_114, sphM_114, hehM_114, tkhM_114, vahM_114, hRhM_114, hLhM_114, he9hM_114⟩, hshM_114⟩ := hM_114
                    obtain ⟨hl1hM_114, hl2hM_114, hl3hM_114, hl4hM_114, hl5hM_114, hl6hM_114, hl7hM_114⟩ := id hLhM_114
                    refine w_vret O dX7_readLine_122 ?_
                    have hz0 := (orF_z c_111).1
                    have eF : orF (fLin bs ln Z (tkS bs ln e) (tkB bs ln e) (tkE bs ln e)) (aTB bs ln (eLin bs ln (tkS bs ln e) (tkB bs ln e) (tkE bs ln e))) = aTB bs ln (tkE bs ln (tkE bs ln (tkE bs ln (tkE bs ln e)))) := by rw [eL1, eL2]; exact fin_2 hz0 (by omega)
                    exact hQ _ _ _ _ _ _ _ (by rw [eF, eL2]; exact ⟨_, _, _, _, _, ⟨hRhM_114.1, hRhM_114.2.1, hRhM_114.2.2.1, hRhM_114.2.2.2.1, hRhM_114.2.2.2.2⟩, hLhM_114, he9hM_114⟩) (fun _ => by rw [eL3]; exact hZhM_110 c_111) ((((sm2.rf.up (by omega)).tr (sm.l hshM_87)).tr hshM_110).tr (sm.l hshM_114))
                  · skip
                    refine w_aload_n (n := 114) O dX7_readLine_113 rfl rfl rfl ?_
                    refine w_iconst (n := 115) O dX7_readLine_114 (v := (nI 2)) (by decide) rfl ?_
                    refine w_cV (n := 118) (ro := none) (R := fun mM' => isR G mM' Y bs rphM_110 ln rghM_110 true hthM_110 adhM_110 hwhM_110 2 (tkB bs ln (tkE bs ln (tkE bs ln (tkE bs ln e)))) (tkE bs ln (tkE bs ln (tkE bs ln (tkE bs ln e)))) (tkB bs ln (tkE bs ln (tkE bs ln (tkE bs ln e)))) tkhM_110 vahM_110 ∧ sm mhM_110 mM' 49 49) (st := []) (st1 := []) (As := [.int (nI 2)]) (b := 49) O dX7_readLine_115 ul_X7_87 um_X7_fails (f_X7_fails hW ⟨hR0.1, hR0.2.1, hR0.2.2.1, hR0.2.2.2.1, hR0.2.2.2.2⟩ hln hbs (fun M' h1 h2 => ⟨rfl, h1, h2⟩)) rfl (by omega) hR0.1 rfl rfl rfl rfl (by omega) (Nat.le_of_ble_eq_true rfl) rfl (fun mhM_115 hM_115 => ?_)
                    obtain ⟨hRhM_115, hshM_115⟩ := hM_115
                    refine w_aload_n (n := 119) O dX7_readLine_118 rfl rfl rfl ?_
                    refine w_cV (n := 122) (ro := none) (R := fun mM' => mhM_115 = mM') (st := []) (st1 := []) (As := []) (b := 49) O dX7_readLine_119 ul_X7_91 um_X7_step (f_X7_step0 hW ⟨hRhM_115.1, hRhM_115.2.1, hRhM_115.2.2.1, hRhM_115.2.2.2.1, hRhM_115.2.2.2.2⟩ hln hbs (by decide) (by omega) ⟨rfl, rfl⟩) rfl (by omega) hRhM_115.1 rfl rfl rfl rfl (by omega) (Nat.le_of_ble_eq_true rfl) rfl (fun mhM_116 hM_116 => ?_)
                    subst hM_116
                    refine w_vret O dX7_readLine_122 ?_
                    have hz0 := (orF_z c_111).1
                    obtain ⟨f1, f2⟩ := fin_3 (X := aTB bs ln (tkE bs ln (tkE bs ln (tkE bs ln (tkE bs ln e))))) hz0 (by omega) (show ¬ tkS bs ln (tkE bs ln (tkE bs ln (tkE bs ln e))) = 4 by omega)
                    have eF : orF (fLin bs ln Z (tkS bs ln e) (tkB bs ln e) (tkE bs ln e)) (aTB bs ln (eLin bs ln (tkS bs ln e) (tkB bs ln e) (tkE bs ln e))) = (2, tkB bs ln (tkE bs ln (tkE bs ln (tkE bs ln e)))) := by rw [eL1, eL2]; exact f1
                    exact hQ _ _ _ _ _ _ _ (by rw [eF, eL2]; exact ⟨_, _, _, _, _, ⟨hRhM_115.1, hRhM_115.2.1, hRhM_115.2.2.1, hRhM_115.2.2.2.1, hRhM_115.2.2.2.2⟩, ⟨hl1hM_110, hl2hM_110, hl3hM_110, hl4hM_110, (show 2 ≤ 6 by decide), (fun _ => rfl), (fun z => absurd z (show ¬ 2 = 0 by decide))⟩, tkE_le he9hM_110⟩) (fun z => absurd z (by rw [eL1]; exact f2)) ((((sm2.rf.up (by omega)).tr (sm.l hshM_87)).tr hshM_110).tr (sm.l hshM_115))
              · skip
                omega
            · skip
              refine w_vret O dX7_readLine_92 ?_
              obtain ⟨ha1, ha2⟩ := aT_1 (bs := bs) (ln := ln) (p := tkE bs ln e) (by omega)
              have hRz := hRhM_87
              rw [show (aT bs ln (tkE bs ln e), tkB bs ln (tkE bs ln e)).1 = 1 from ha1] at hRz
              have eL : fLin bs ln Z (tkS bs ln e) (tkB bs ln e) (tkE bs ln e) = (1, tkB bs ln (tkE bs ln e)) := lin_lex hn7 hW9 (fun z => by omega) (fun z => absurd z (by omega)) ha2
              have eF : orF (fLin bs ln Z (tkS bs ln e) (tkB bs ln e) (tkE bs ln e)) (aTB bs ln (eLin bs ln (tkS bs ln e) (tkB bs ln e) (tkE bs ln e))) = (1, tkB bs ln (tkE bs ln e)) := by rw [eL]; rfl
              exact hQ _ _ _ _ _ _ _ (by rw [eF]; exact ⟨_, _, _, _, _, hRz, ⟨hl1hM_87, hl2hM_87, hl3hM_87, hl4hM_87, (show 1 ≤ 6 by decide), (fun _ => hl6hM_87 (show ¬ aT bs ln (tkE bs ln e) = 0 by omega)), (fun z => absurd z (show ¬ 1 = 0 by decide))⟩, eLin_le _ _ hE2⟩) (fun z => absurd z (by rw [eL]; exact (show ¬ 1 = 0 by decide))) ((sm2.rf.up (by omega)).tr (sm.l hshM_87))
          · skip
            refine w_iload_n (n := 68) O dX7_readLine_67 rfl rfl rfl ?_
            refine w_bipush (n := 70) O dX7_readLine_68 (v := (nI 7)) (by decide) rfl ?_
            refine w_icmp_neN (n := 73) (tgt := 77) O dX7_readLine_70 (by omega) (by omega) (by decide) rfl (fun c_117 => ?_) (fun c_117 => by omega)
            refine w_iconst (n := 78) O dX7_readLine_77 (v := (nI 0)) (by decide) rfl ?_
            refine w_top (bI false) (by decide) ?_
            refine w_putf (n := 81) (fs' := [.ref (gb_ad G 50), .int (Y 1), .ref (gb_ad G 51), .int (nI (rg)), .int (bI (false)), .int (nI (ht)), .int (nI (ad)), .int (dI hw), .ref (gb_ad G 52), .int (nI (ln)), .int (Y 10), .int (nI 0), .int (nI (ba)), .int (nI (tkE bs ln e)), .int (nI (tkB bs ln e)), .int (nI (tk)), .int (nI (va)), .ref (gb_ad G 53), .ref (gb_ad G 54), .int (Y 19), .int (Y 20), .int (Y 21), .int (Y 22), .ref (gb_ad G 55), .int (Y 24), .ref (gb_ad G 56), .int (Y 26), .ref (gb_ad G 57), .ref (gb_ad G 58), .ref (gb_ad G 59), .ref (gb_ad G 60), .int (Y 31)]) O 4 dX7_readLine_78 (by omega) hR.1 rfl (by decide) uX7 uf_X7_123 tyX7 tyX7_ok nmX7 rfl (bI_nar _) (bI_fit _) (Nat.le_of_ble_eq_true rfl) rfl rfl ?_
            refine w_aload_n (n := 82) O dX7_readLine_81 rfl rfl rfl ?_
            refine w_cV (n := 85) (ro := none) (R := fun mM' => PM G mM' Y bs rp ln rg false ht ad hw (aT bs ln (tkE bs ln e), tkB bs ln (tkE bs ln e)) (tkE bs ln e) ∧ sm (va_up mM (49) (.inr (7, [.ref (gb_ad G 50), .int (Y 1), .ref (gb_ad G 51), .int (nI (rg)), .int (bI (false)), .int (nI (ht)), .int (nI (ad)), .int (dI hw), .ref (gb_ad G 52), .int (nI (ln)), .int (Y 10), .int (nI 0), .int (nI (ba)), .int (nI (tkE bs ln e)), .int (nI (tkB bs ln e)), .int (nI (tk)), .int (nI (va)), .ref (gb_ad G 53), .ref (gb_ad G 54), .int (Y 19), .int (Y 20), .int (Y 21), .int (Y 22), .ref (gb_ad G 55), .int (Y 24), .ref (gb_ad G 56), .int (Y 26), .ref (gb_ad G 57), .ref (gb_ad G 58), .ref (gb_ad G 59), .ref (gb_ad G 60), .int (Y 31)]))) mM' 49 49) (st := []) (st1 := []) (As := []) (b := 49) O dX7_readLine_82 ul_X7_91 um_X7_step (f_X7_step1 hW ⟨(va_up_self _ _ _), ((va_up_ne _ _ (by decide)).trans hR.2.1), ((va_up_ne _ _ (by decide)).trans hR.2.2.1), ((va_up_ne _ _ (by decide)).trans hR.2.2.2.1), ((va_up_ne _ _ (by decide)).trans hR.2.2.2.2)⟩ hln hbs (by omega) (fun M' h1 h2 => ⟨rfl, h1, h2⟩)) rfl (by omega) (va_up_self _ _ _) rfl rfl rfl rfl (by omega) (Nat.le_of_ble_eq_true rfl) rfl (fun mhM_118 hM_118 => ?_)
            obtain ⟨⟨bahM_118, sphM_118, hehM_118, tkhM_118, vahM_118, hRhM_118, hLhM_118, he9hM_118⟩, hshM_118⟩ := hM_118
            obtain ⟨hl1hM_118, hl2hM_118, hl3hM_118, hl4hM_118, hl5hM_118, hl6hM_118, hl7hM_118⟩ := id hLhM_118
            have hat := aT_le bs ln (tkE bs ln e)
            refine w_aload_n (n := 86) O dX7_readLine_85 rfl rfl rfl ?_
            refine w_getf (n := 89) O 11 dX7_readLine_86 (by omega) hRhM_118.1 rfl (by decide) uX7 uf_X7_57 rfl rfl ?_
            refine w_if_leN (n := 92) (tgt := 93) O dX7_readLine_89 (by omega) (by decide) rfl (fun c_119 => ?_) (fun c_119 => ?_)
            · skip
              refine w_aload_n (n := 94) O dX7_readLine_93 rfl rfl rfl ?_
              refine w_iload_n (n := 95) O dX7_readLine_94 rfl rfl rfl ?_
              rcases (show n ≤ 3 ∨ n = 4 ∨ n = 5 ∨ n = 6 ∨ n = 7 by omega) with hn | hn | hn | hn | hn
              · skip
                refine w_cV (n := 98) (ro := none) (R := fun mM' => ∃ q1 q2 q3 q4 q5, PM G mM' Y bs q1 ln q2 false q3 q4 q5 (orF (orF (aM bs ln 3 (tkE bs ln e), tkB bs ln (tkE bs ln e)) (orF (aN bs ln 0 9 (tkE bs ln (tkE bs ln e)), tkB bs ln (tkE bs ln (tkE bs ln e))) (aN bs ln 0 3 (tkE bs ln (tkE bs ln (tkE bs ln e))), tkB bs ln (tkE bs ln (tkE bs ln (tkE bs ln e)))))) (aTB bs ln (tkE bs ln (tkE bs ln (tkE bs ln (tkE bs ln e)))))) (tkE bs ln (tkE bs ln (tkE bs ln (tkE bs ln e)))) ∧ ((orF (orF (aM bs ln 3 (tkE bs ln e), tkB bs ln (tkE bs ln e)) (orF (aN bs ln 0 9 (tkE bs ln (tkE bs ln e)), tkB bs ln (tkE bs ln (tkE bs ln e))) (aN bs ln 0 3 (tkE bs ln (tkE bs ln (tkE bs ln e))), tkB bs ln (tkE bs ln (tkE bs ln (tkE bs ln e)))))) (aTB bs ln (tkE bs ln (tkE bs ln (tkE bs ln (tkE bs ln e)))))).1 = 0 → ZR q1 q2 false q3 q4 q5 (uGiv bs ln Z n (tkE bs ln e))) ∧ sm2 mhM_118 mM' 49 49 51 51) (st := []) (st1 := []) (As := [.int (nI (n))]) (b := 49) O dX7_readLine_95 ul_X7_127 um_X7_readMore (f_X7_rmK hW ⟨_, _, _, _, _, ⟨hRhM_118.1, hRhM_118.2.1, hRhM_118.2.2.1, hRhM_118.2.2.2.1, hRhM_118.2.2.2.2⟩, hLhM_118, he9hM_118⟩ hln hbs c_119 ⟨hz1, hz2, c_86.symm.trans hz3, hz4, hz5, hz6⟩ hok hn (by omega) (fun M' q1 q2 q3 q4 q5 h1 h2 h3 => ⟨rfl, q1, q2, q3, q4, q5, h1, h2, h3⟩)) rfl (by omega) hRhM_118.1 rfl rfl rfl rfl (by omega) (Nat.le_of_ble_eq_true rfl) rfl (fun mhM_120 hM_120 => ?_)
                obtain ⟨rphM_120, rghM_120, hthM_120, adhM_120, hwhM_120, hPhM_120, hZhM_120, hshM_120⟩ := hM_120
                obtain ⟨bahM_120, sphM_120, hehM_120, tkhM_120, vahM_120, hRhM_120, hLhM_120, he9hM_120⟩ := hPhM_120
                obtain ⟨hl1hM_120, hl2hM_120, hl3hM_120, hl4hM_120, hl5hM_120, hl6hM_120, hl7hM_120⟩ := id hLhM_120
                obtain ⟨eL1, eL2, eL3⟩ := lin_K (ln := ln) (Z := Z) (hW9.trans (show nmW (some n) = 0 from (show ∀ n, n ≤ 3 → nmW (some n) = 0 by decide) n hn)) (by omega)
                rw [hK9, show nmK (some n) = n from (show ∀ n, n ≤ 3 → nmK (some n) = n by decide) n hn] at eL3
                refine w_aload_n (n := 99) O dX7_readLine_98 rfl rfl rfl ?_
                refine w_getf (n := 102) O 11 dX7_readLine_99 (by omega) hRhM_120.1 rfl (by decide) uX7 uf_X7_57 rfl rfl ?_
                refine w_if_neN (n := 105) (tgt := 118) O dX7_readLine_102 (by omega) (by decide) rfl (fun c_121 => ?_) (fun c_121 => ?_)
                · skip
                  refine w_aload_n (n := 119) O dX7_readLine_118 rfl rfl rfl ?_
                  refine w_cV (n := 122) (ro := none) (R := fun mM' => mhM_120 = mM') (st := []) (st1 := []) (As := []) (b := 49) O dX7_readLine_119 ul_X7_91 um_X7_step (f_X7_step0 hW ⟨hRhM_120.1, hRhM_120.2.1, hRhM_120.2.2.1, hRhM_120.2.2.2.1, hRhM_120.2.2.2.2⟩ hln hbs c_121 (by omega) ⟨rfl, rfl⟩) rfl (by omega) hRhM_120.1 rfl rfl rfl rfl (by omega) (Nat.le_of_ble_eq_true rfl) rfl (fun mhM_122 hM_122 => ?_)
                  subst hM_122
                  refine w_vret O dX7_readLine_122 ?_
                  obtain ⟨f1, f2⟩ := fin_1 (X := aTB bs ln (tkE bs ln (tkE bs ln (tkE bs ln (tkE bs ln (tkE bs ln e)))))) c_121
                  have eF : orF (fLin bs ln Z (tkS bs ln e) (tkB bs ln e) (tkE bs ln e)) (aTB bs ln (eLin bs ln (tkS bs ln e) (tkB bs ln e) (tkE bs ln e))) = orF (orF (aM bs ln 3 (tkE bs ln e), tkB bs ln (tkE bs ln e)) (orF (aN bs ln 0 9 (tkE bs ln (tkE bs ln e)), tkB bs ln (tkE bs ln (tkE bs ln e))) (aN bs ln 0 3 (tkE bs ln (tkE bs ln (tkE bs ln e))), tkB bs ln (tkE bs ln (tkE bs ln (tkE bs ln e)))))) (aTB bs ln (tkE bs ln (tkE bs ln (tkE bs ln (tkE bs ln e))))) := by rw [eL1, eL2]; exact f1
                  exact hQ _ _ _ _ _ _ _ (by rw [eF, eL2]; exact ⟨_, _, _, _, _, ⟨hRhM_120.1, hRhM_120.2.1, hRhM_120.2.2.1, hRhM_120.2.2.2.1, hRhM_120.2.2.2.2⟩, ⟨hl1hM_120, hl2hM_120, hl3hM_120, hl4hM_120, hl5hM_120, hl6hM_120, fun z => absurd z c_121⟩, tkE_le he9hM_120⟩) (fun z => absurd z (by rw [eL1]; exact f2)) (((sm2.rf.up (by omega)).tr (sm.l hshM_118)).tr hshM_120)
                · skip
                  obtain ⟨q1, q2, q3, q4⟩ := hl7hM_120 c_121
                  subst q1
                  subst q2
                  have hR0 := hRhM_120
                  rw [c_121] at hR0
                  have hq4 := tkS_le bs ln (tkE bs ln (tkE bs ln (tkE bs ln (tkE bs ln e))))
                  refine w_aload_n (n := 106) O dX7_readLine_105 rfl rfl rfl ?_
                  refine w_getf (n := 109) O 15 dX7_readLine_106 (by omega) hR0.1 rfl (by decide) uX7 uf_X7_66 rfl rfl ?_
                  refine w_iconst (n := 110) O dX7_readLine_109 (v := (nI 3)) (by decide) rfl ?_
                  refine w_icmp_eqN (n := 113) (tgt := 118) O dX7_readLine_110 (by omega) (by omega) (by decide) rfl (fun c_123 => ?_) (fun c_123 => ?_)
                  · skip
                    refine w_aload_n (n := 119) O dX7_readLine_118 rfl rfl rfl ?_
                    refine w_cV (n := 122) (ro := none) (R := fun mM' => PM G mM' Y bs rphM_120 ln rghM_120 false hthM_120 adhM_120 hwhM_120 (aT bs ln (tkE bs ln (tkE bs ln (tkE bs ln (tkE bs ln (tkE bs ln e))))), tkB bs ln (tkE bs ln (tkE bs ln (tkE bs ln (tkE bs ln (tkE bs ln e)))))) (tkE bs ln (tkE bs ln (tkE bs ln (tkE bs ln (tkE bs ln e))))) ∧ sm mhM_120 mM' 49 49) (st := []) (st1 := []) (As := []) (b := 49) O dX7_readLine_119 ul_X7_91 um_X7_step (f_X7_step1 hW ⟨hR0.1, hR0.2.1, hR0.2.2.1, hR0.2.2.2.1, hR0.2.2.2.2⟩ hln hbs (by omega) (fun M' h1 h2 => ⟨rfl, h1, h2⟩)) rfl (by omega) hR0.1 rfl rfl rfl rfl (by omega) (Nat.le_of_ble_eq_true rfl) rfl (fun mhM_124 hM_124 => ?_)
                    obtain ⟨⟨bahM_124, sphM_124, hehM_124, tkhM_124, vahM_124, hRhM_124, hLhM_124, he9hM_124⟩, hshM_124⟩ := hM_124
                    obtain ⟨hl1hM_124, hl2hM_124, hl3hM_124, hl4hM_124, hl5hM_124, hl6hM_124, hl7hM_124⟩ := id hLhM_124
                    refine w_vret O dX7_readLine_122 ?_
                    have hz0 := (orF_z c_121).1
                    have eF : orF (fLin bs ln Z (tkS bs ln e) (tkB bs ln e) (tkE bs ln e)) (aTB bs ln (eLin bs ln (tkS bs ln e) (tkB bs ln e) (tkE bs ln e))) = aTB bs ln (tkE bs ln (tkE bs ln (tkE bs ln (tkE bs ln (tkE bs ln e))))) := by rw [eL1, eL2]; exact fin_2 hz0 (by omega)
                    exact hQ _ _ _ _ _ _ _ (by rw [eF, eL2]; exact ⟨_, _, _, _, _, ⟨hRhM_124.1, hRhM_124.2.1, hRhM_124.2.2.1, hRhM_124.2.2.2.1, hRhM_124.2.2.2.2⟩, hLhM_124, he9hM_124⟩) (fun _ => by rw [eL3]; exact hZhM_120 c_121) ((((sm2.rf.up (by omega)).tr (sm.l hshM_118)).tr hshM_120).tr (sm.l hshM_124))
                  · skip
                    refine w_aload_n (n := 114) O dX7_readLine_113 rfl rfl rfl ?_
                    refine w_iconst (n := 115) O dX7_readLine_114 (v := (nI 2)) (by decide) rfl ?_
                    refine w_cV (n := 118) (ro := none) (R := fun mM' => isR G mM' Y bs rphM_120 ln rghM_120 false hthM_120 adhM_120 hwhM_120 2 (tkB bs ln (tkE bs ln (tkE bs ln (tkE bs ln (tkE bs ln e))))) (tkE bs ln (tkE bs ln (tkE bs ln (tkE bs ln (tkE bs ln e))))) (tkB bs ln (tkE bs ln (tkE bs ln (tkE bs ln (tkE bs ln e))))) tkhM_120 vahM_120 ∧ sm mhM_120 mM' 49 49) (st := []) (st1 := []) (As := [.int (nI 2)]) (b := 49) O dX7_readLine_115 ul_X7_87 um_X7_fails (f_X7_fails hW ⟨hR0.1, hR0.2.1, hR0.2.2.1, hR0.2.2.2.1, hR0.2.2.2.2⟩ hln hbs (fun M' h1 h2 => ⟨rfl, h1, h2⟩)) rfl (by omega) hR0.1 rfl rfl rfl rfl (by omega) (Nat.le_of_ble_eq_true rfl) rfl (fun mhM_125 hM_125 => ?_)
                    obtain ⟨hRhM_125, hshM_125⟩ := hM_125
                    refine w_aload_n (n := 119) O dX7_readLine_118 rfl rfl rfl ?_
                    refine w_cV (n := 122) (ro := none) (R := fun mM' => mhM_125 = mM') (st := []) (st1 := []) (As := []) (b := 49) O dX7_readLine_119 ul_X7_91 um_X7_step (f_X7_step0 hW ⟨hRhM_125.1, hRhM_125.2.1, hRhM_125.2.2.1, hRhM_125.2.2.2.1, hRhM_125.2.2.2.2⟩ hln hbs (by decide) (by omega) ⟨rfl, rfl⟩) rfl (by omega) hRhM_125.1 rfl rfl rfl rfl (by omega) (Nat.le_of_ble_eq_true rfl) rfl (fun mhM_126 hM_126 => ?_)
                    subst hM_126
                    refine w_vret O dX7_readLine_122 ?_
                    have hz0 := (orF_z c_121).1
                    obtain ⟨f1, f2⟩ := fin_3 (X := aTB bs ln (tkE bs ln (tkE bs ln (tkE bs ln (tkE bs ln (tkE bs ln e)))))) hz0 (by omega) (show ¬ tkS bs ln (tkE bs ln (tkE bs ln (tkE bs ln (tkE bs ln e)))) = 4 by omega)
                    have eF : orF (fLin bs ln Z (tkS bs ln e) (tkB bs ln e) (tkE bs ln e)) (aTB bs ln (eLin bs ln (tkS bs ln e) (tkB bs ln e) (tkE bs ln e))) = (2, tkB bs ln (tkE bs ln (tkE bs ln (tkE bs ln (tkE bs ln e))))) := by rw [eL1, eL2]; exact f1
                    exact hQ _ _ _ _ _ _ _ (by rw [eF, eL2]; exact ⟨_, _, _, _, _, ⟨hRhM_125.1, hRhM_125.2.1, hRhM_125.2.2.1, hRhM_125.2.2.2.1, hRhM_125.2.2.2.2⟩, ⟨hl1hM_120, hl2hM_120, hl3hM_120, hl4hM_120, (show 2 ≤ 6 by decide), (fun _ => rfl), (fun z => absurd z (show ¬ 2 = 0 by decide))⟩, tkE_le he9hM_120⟩) (fun z => absurd z (by rw [eL1]; exact f2)) ((((sm2.rf.up (by omega)).tr (sm.l hshM_118)).tr hshM_120).tr (sm.l hshM_125))
              · skip
                subst hn
                refine w_cV (n := 98) (ro := none) (R := fun mM' => ∃ q1 q2 q3 q4 q5, PM G mM' Y bs q1 ln q2 false q3 q4 q5 (orF (fSor bs ln Z (tkE bs ln e)) (aTB bs ln (tkE bs ln (tkE bs ln e)))) (tkE bs ln (tkE bs ln e)) ∧ ((orF (fSor bs ln Z (tkE bs ln e)) (aTB bs ln (tkE bs ln (tkE bs ln e)))).1 = 0 → ZR q1 q2 false q3 q4 q5 (uSor bs ln Z (tkE bs ln e))) ∧ sm2 mhM_118 mM' 49 49 51 51) (st := []) (st1 := []) (As := [.int (nI 4)]) (b := 49) O dX7_readLine_95 ul_X7_127 um_X7_readMore (f_X7_rmS hW ⟨_, _, _, _, _, ⟨hRhM_118.1, hRhM_118.2.1, hRhM_118.2.2.1, hRhM_118.2.2.2.1, hRhM_118.2.2.2.2⟩, hLhM_118, he9hM_118⟩ hln hbs c_119 ⟨hz1, hz2, c_86.symm.trans hz3, hz4, hz5, hz6⟩ hok (fun M' q1 q2 q3 q4 q5 h1 h2 h3 => ⟨rfl, q1, q2, q3, q4, q5, h1, h2, h3⟩)) rfl (by omega) hRhM_118.1 rfl rfl rfl rfl (by omega) (Nat.le_of_ble_eq_true rfl) rfl (fun mhM_127 hM_127 => ?_)
                obtain ⟨rphM_127, rghM_127, hthM_127, adhM_127, hwhM_127, hPhM_127, hZhM_127, hshM_127⟩ := hM_127
                obtain ⟨bahM_127, sphM_127, hehM_127, tkhM_127, vahM_127, hRhM_127, hLhM_127, he9hM_127⟩ := hPhM_127
                obtain ⟨hl1hM_127, hl2hM_127, hl3hM_127, hl4hM_127, hl5hM_127, hl6hM_127, hl7hM_127⟩ := id hLhM_127
                obtain ⟨eL1, eL2, eL3⟩ := lin_S (ln := ln) (Z := Z) hW9
                refine w_aload_n (n := 99) O dX7_readLine_98 rfl rfl rfl ?_
                refine w_getf (n := 102) O 11 dX7_readLine_99 (by omega) hRhM_127.1 rfl (by decide) uX7 uf_X7_57 rfl rfl ?_
                refine w_if_neN (n := 105) (tgt := 118) O dX7_readLine_102 (by omega) (by decide) rfl (fun c_128 => ?_) (fun c_128 => ?_)
                · skip
                  refine w_aload_n (n := 119) O dX7_readLine_118 rfl rfl rfl ?_
                  refine w_cV (n := 122) (ro := none) (R := fun mM' => mhM_127 = mM') (st := []) (st1 := []) (As := []) (b := 49) O dX7_readLine_119 ul_X7_91 um_X7_step (f_X7_step0 hW ⟨hRhM_127.1, hRhM_127.2.1, hRhM_127.2.2.1, hRhM_127.2.2.2.1, hRhM_127.2.2.2.2⟩ hln hbs c_128 (by omega) ⟨rfl, rfl⟩) rfl (by omega) hRhM_127.1 rfl rfl rfl rfl (by omega) (Nat.le_of_ble_eq_true rfl) rfl (fun mhM_129 hM_129 => ?_)
                  subst hM_129
                  refine w_vret O dX7_readLine_122 ?_
                  obtain ⟨f1, f2⟩ := fin_1 (X := aTB bs ln (tkE bs ln (tkE bs ln (tkE bs ln e)))) c_128
                  have eF : orF (fLin bs ln Z (tkS bs ln e) (tkB bs ln e) (tkE bs ln e)) (aTB bs ln (eLin bs ln (tkS bs ln e) (tkB bs ln e) (tkE bs ln e))) = orF (fSor bs ln Z (tkE bs ln e)) (aTB bs ln (tkE bs ln (tkE bs ln e))) := by rw [eL1, eL2]; exact f1
                  exact hQ _ _ _ _ _ _ _ (by rw [eF, eL2]; exact ⟨_, _, _, _, _, ⟨hRhM_127.1, hRhM_127.2.1, hRhM_127.2.2.1, hRhM_127.2.2.2.1, hRhM_127.2.2.2.2⟩, ⟨hl1hM_127, hl2hM_127, hl3hM_127, hl4hM_127, hl5hM_127, hl6hM_127, fun z => absurd z c_128⟩, tkE_le he9hM_127⟩) (fun z => absurd z (by rw [eL1]; exact f2)) (((sm2.rf.up (by omega)).tr (sm.l hshM_118)).tr hshM_127)
                · skip
                  obtain ⟨q1, q2, q3, q4⟩ := hl7hM_127 c_128
                  subst q1
                  subst q2
                  have hR0 := hRhM_127
                  rw [c_128] at hR0
                  have hq4 := tkS_le bs ln (tkE bs ln (tkE bs ln e))
                  refine w_aload_n (n := 106) O dX7_readLine_105 rfl rfl rfl ?_
                  refine w_getf (n := 109) O 15 dX7_readLine_106 (by omega) hR0.1 rfl (by decide) uX7 uf_X7_66 rfl rfl ?_
                  refine w_iconst (n := 110) O dX7_readLine_109 (v := (nI 3)) (by decide) rfl ?_
                  refine w_icmp_eqN (n := 113) (tgt := 118) O dX7_readLine_110 (by omega) (by omega) (by decide) rfl (fun c_130 => ?_) (fun c_130 => ?_)
                  · skip
                    refine w_aload_n (n := 119) O dX7_readLine_118 rfl rfl rfl ?_
                    refine w_cV (n := 122) (ro := none) (R := fun mM' => PM G mM' Y bs rphM_127 ln rghM_127 false hthM_127 adhM_127 hwhM_127 (aT bs ln (tkE bs ln (tkE bs ln (tkE bs ln e))), tkB bs ln (tkE bs ln (tkE bs ln (tkE bs ln e)))) (tkE bs ln (tkE bs ln (tkE bs ln e))) ∧ sm mhM_127 mM' 49 49) (st := []) (st1 := []) (As := []) (b := 49) O dX7_readLine_119 ul_X7_91 um_X7_step (f_X7_step1 hW ⟨hR0.1, hR0.2.1, hR0.2.2.1, hR0.2.2.2.1, hR0.2.2.2.2⟩ hln hbs (by omega) (fun M' h1 h2 => ⟨rfl, h1, h2⟩)) rfl (by omega) hR0.1 rfl rfl rfl rfl (by omega) (Nat.le_of_ble_eq_true rfl) rfl (fun mhM_131 hM_131 => ?_)
                    obtain ⟨⟨bahM_131, sphM_131, hehM_131, tkhM_131, vahM_131, hRhM_131, hLhM_131, he9hM_131⟩, hshM_131⟩ := hM_131
                    obtain ⟨hl1hM_131, hl2hM_131, hl3hM_131, hl4hM_131, hl5hM_131, hl6hM_131, hl7hM_131⟩ := id hLhM_131
                    refine w_vret O dX7_readLine_122 ?_
                    have hz0 := (orF_z c_128).1
                    have eF : orF (fLin bs ln Z (tkS bs ln e) (tkB bs ln e) (tkE bs ln e)) (aTB bs ln (eLin bs ln (tkS bs ln e) (tkB bs ln e) (tkE bs ln e))) = aTB bs ln (tkE bs ln (tkE bs ln (tkE bs ln e))) := by rw [eL1, eL2]; exact fin_2 hz0 (by omega)
                    exact hQ _ _ _ _ _ _ _ (by rw [eF, eL2]; exact ⟨_, _, _, _, _, ⟨hRhM_131.1, hRhM_131.2.1, hRhM_131.2.2.1, hRhM_131.2.2.2.1, hRhM_131.2.2.2.2⟩, hLhM_131, he9hM_131⟩) (fun _ => by rw [eL3]; exact hZhM_127 c_128) ((((sm2.rf.up (by omega)).tr (sm.l hshM_118)).tr hshM_127).tr (sm.l hshM_131))
                  · skip
                    refine w_aload_n (n := 114) O dX7_readLine_113 rfl rfl rfl ?_
                    refine w_iconst (n := 115) O dX7_readLine_114 (v := (nI 2)) (by decide) rfl ?_
                    refine w_cV (n := 118) (ro := none) (R := fun mM' => isR G mM' Y bs rphM_127 ln rghM_127 false hthM_127 adhM_127 hwhM_127 2 (tkB bs ln (tkE bs ln (tkE bs ln e))) (tkE bs ln (tkE bs ln (tkE bs ln e))) (tkB bs ln (tkE bs ln (tkE bs ln e))) tkhM_127 vahM_127 ∧ sm mhM_127 mM' 49 49) (st := []) (st1 := []) (As := [.int (nI 2)]) (b := 49) O dX7_readLine_115 ul_X7_87 um_X7_fails (f_X7_fails hW ⟨hR0.1, hR0.2.1, hR0.2.2.1, hR0.2.2.2.1, hR0.2.2.2.2⟩ hln hbs (fun M' h1 h2 => ⟨rfl, h1, h2⟩)) rfl (by omega) hR0.1 rfl rfl rfl rfl (by omega) (Nat.le_of_ble_eq_true rfl) rfl (fun mhM_132 hM_132 => ?_)
                    obtain ⟨hRhM_132, hshM_132⟩ := hM_132
                    refine w_aload_n (n := 119) O dX7_readLine_118 rfl rfl rfl ?_
                    refine w_cV (n := 122) (ro := none) (R := fun mM' => mhM_132 = mM') (st := []) (st1 := []) (As := []) (b := 49) O dX7_readLine_119 ul_X7_91 um_X7_step (f_X7_step0 hW ⟨hRhM_132.1, hRhM_132.2.1, hRhM_132.2.2.1, hRhM_132.2.2.2.1, hRhM_132.2.2.2.2⟩ hln hbs (by decide) (by omega) ⟨rfl, rfl⟩) rfl (by omega) hRhM_132.1 rfl rfl rfl rfl (by omega) (Nat.le_of_ble_eq_true rfl) rfl (fun mhM_133 hM_133 => ?_)
                    subst hM_133
                    refine w_vret O dX7_readLine_122 ?_
                    have hz0 := (orF_z c_128).1
                    obtain ⟨f1, f2⟩ := fin_3 (X := aTB bs ln (tkE bs ln (tkE bs ln (tkE bs ln e)))) hz0 (by omega) (show ¬ tkS bs ln (tkE bs ln (tkE bs ln e)) = 4 by omega)
                    have eF : orF (fLin bs ln Z (tkS bs ln e) (tkB bs ln e) (tkE bs ln e)) (aTB bs ln (eLin bs ln (tkS bs ln e) (tkB bs ln e) (tkE bs ln e))) = (2, tkB bs ln (tkE bs ln (tkE bs ln e))) := by rw [eL1, eL2]; exact f1
                    exact hQ _ _ _ _ _ _ _ (by rw [eF, eL2]; exact ⟨_, _, _, _, _, ⟨hRhM_132.1, hRhM_132.2.1, hRhM_132.2.2.1, hRhM_132.2.2.2.1, hRhM_132.2.2.2.2⟩, ⟨hl1hM_127, hl2hM_127, hl3hM_127, hl4hM_127, (show 2 ≤ 6 by decide), (fun _ => rfl), (fun z => absurd z (show ¬ 2 = 0 by decide))⟩, tkE_le he9hM_127⟩) (fun z => absurd z (by rw [eL1]; exact f2)) ((((sm2.rf.up (by omega)).tr (sm.l hshM_118)).tr hshM_127).tr (sm.l hshM_132))
              · skip
                subst hn
                refine w_cV (n := 98) (ro := none) (R := fun mM' => ∃ q1 q2 q3 q4 q5, PM G mM' Y bs q1 ln q2 false q3 q4 q5 (orF (fHol bs ln Z (tkE bs ln e)) (aTB bs ln (tkE bs ln (tkE bs ln (tkE bs ln e))))) (tkE bs ln (tkE bs ln (tkE bs ln e))) ∧ ((orF (fHol bs ln Z (tkE bs ln e)) (aTB bs ln (tkE bs ln (tkE bs ln (tkE bs ln e))))).1 = 0 → ZR q1 q2 false q3 q4 q5 (uHol bs ln Z (tkE bs ln e))) ∧ sm2 mhM_118 mM' 49 49 51 51) (st := []) (st1 := []) (As := [.int (nI 5)]) (b := 49) O dX7_readLine_95 ul_X7_127 um_X7_readMore (f_X7_rmH hW ⟨_, _, _, _, _, ⟨hRhM_118.1, hRhM_118.2.1, hRhM_118.2.2.1, hRhM_118.2.2.2.1, hRhM_118.2.2.2.2⟩, hLhM_118, he9hM_118⟩ hln hbs c_119 ⟨hz1, hz2, c_86.symm.trans hz3, hz4, hz5, hz6⟩ hok (fun M' q1 q2 q3 q4 q5 h1 h2 h3 => ⟨rfl, q1, q2, q3, q4, q5, h1, h2, h3⟩)) rfl (by omega) hRhM_118.1 rfl rfl rfl rfl (by omega) (Nat.le_of_ble_eq_true rfl) rfl (fun mhM_134 hM_134 => ?_)
                obtain ⟨rphM_134, rghM_134, hthM_134, adhM_134, hwhM_134, hPhM_134, hZhM_134, hshM_134⟩ := hM_134
                obtain ⟨bahM_134, sphM_134, hehM_134, tkhM_134, vahM_134, hRhM_134, hLhM_134, he9hM_134⟩ := hPhM_134
                obtain ⟨hl1hM_134, hl2hM_134, hl3hM_134, hl4hM_134, hl5hM_134, hl6hM_134, hl7hM_134⟩ := id hLhM_134
                obtain ⟨eL1, eL2, eL3⟩ := lin_H (ln := ln) (Z := Z) hW9
                refine w_aload_n (n := 99) O dX7_readLine_98 rfl rfl rfl ?_
                refine w_getf (n := 102) O 11 dX7_readLine_99 (by omega) hRhM_134.1 rfl (by decide) uX7 uf_X7_57 rfl rfl ?_
                refine w_if_neN (n := 105) (tgt := 118) O dX7_readLine_102 (by omega) (by decide) rfl (fun c_135 => ?_) (fun c_135 => ?_)
                · skip
                  refine w_aload_n (n := 119) O dX7_readLine_118 rfl rfl rfl ?_
                  refine w_cV (n := 122) (ro := none) (R := fun mM' => mhM_134 = mM') (st := []) (st1 := []) (As := []) (b := 49) O dX7_readLine_119 ul_X7_91 um_X7_step (f_X7_step0 hW ⟨hRhM_134.1, hRhM_134.2.1, hRhM_134.2.2.1, hRhM_134.2.2.2.1, hRhM_134.2.2.2.2⟩ hln hbs c_135 (by omega) ⟨rfl, rfl⟩) rfl (by omega) hRhM_134.1 rfl rfl rfl rfl (by omega) (Nat.le_of_ble_eq_true rfl) rfl (fun mhM_136 hM_136 => ?_)
                  subst hM_136
                  refine w_vret O dX7_readLine_122 ?_
                  obtain ⟨f1, f2⟩ := fin_1 (X := aTB bs ln (tkE bs ln (tkE bs ln (tkE bs ln (tkE bs ln e))))) c_135
                  have eF : orF (fLin bs ln Z (tkS bs ln e) (tkB bs ln e) (tkE bs ln e)) (aTB bs ln (eLin bs ln (tkS bs ln e) (tkB bs ln e) (tkE bs ln e))) = orF (fHol bs ln Z (tkE bs ln e)) (aTB bs ln (tkE bs ln (tkE bs ln (tkE bs ln e)))) := by rw [eL1, eL2]; exact f1
                  exact hQ _ _ _ _ _ _ _ (by rw [eF, eL2]; exact ⟨_, _, _, _, _, ⟨hRhM_134.1, hRhM_134.2.1, hRhM_134.2.2.1, hRhM_134.2.2.2.1, hRhM_134.2.2.2.2⟩, ⟨hl1hM_134, hl2hM_134, hl3hM_134, hl4hM_134, hl5hM_134, hl6hM_134, fun z => absurd z c_135⟩, tkE_le he9hM_134⟩) (fun z => absurd z (by rw [eL1]; exact f2)) (((sm2.rf.up (by omega)).tr (sm.l hshM_118)).tr hshM_134)
                · skip
                  obtain ⟨q1, q2, q3, q4⟩ := hl7hM_134 c_135
                  subst q1
                  subst q2
                  have hR0 := hRhM_134
                  rw [c_135] at hR0
                  have hq4 := tkS_le bs ln (tkE bs ln (tkE bs ln (tkE bs ln e)))
                  refine w_aload_n (n := 106) O dX7_readLine_105 rfl rfl rfl ?_
                  refine w_getf (n := 109) O 15 dX7_readLine_106 (by omega) hR0.1 rfl (by decide) uX7 uf_X7_66 rfl rfl ?_
                  refine w_iconst (n := 110) O dX7_readLine_109 (v := (nI 3)) (by decide) rfl ?_
                  refine w_icmp_eqN (n := 113) (tgt := 118) O dX7_readLine_110 (by omega) (by omega) (by decide) rfl (fun c_137 => ?_) (fun c_137 => ?_)
                  · skip
                    refine w_aload_n (n := 119) O dX7_readLine_118 rfl rfl rfl ?_
                    refine w_cV (n := 122) (ro := none) (R := fun mM' => PM G mM' Y bs rphM_134 ln rghM_134 false hthM_134 adhM_134 hwhM_134 (aT bs ln (tkE bs ln (tkE bs ln (tkE bs ln (tkE bs ln e)))), tkB bs ln (tkE bs ln (tkE bs ln (tkE bs ln (tkE bs ln e))))) (tkE bs ln (tkE bs ln (tkE bs ln (tkE bs ln e)))) ∧ sm mhM_134 mM' 49 49) (st := []) (st1 := []) (As := []) (b := 49) O dX7_readLine_119 ul_X7_91 um_X7_step (f_X7_step1 hW ⟨hR0.1, hR0.2.1, hR0.2.2.1, hR0.2.2.2.1, hR0.2.2.2.2⟩ hln hbs (by omega) (fun M' h1 h2 => ⟨rfl, h1, h2⟩)) rfl (by omega) hR0.1 rfl rfl rfl rfl (by omega) (Nat.le_of_ble_eq_true rfl) rfl (fun mhM_138 hM_138 => ?_)
                    obtain ⟨⟨bahM_138, sphM_138, hehM_138, tkhM_138, vahM_138, hRhM_138, hLhM_138, he9hM_138⟩, hshM_138⟩ := hM_138
                    obtain ⟨hl1hM_138, hl2hM_138, hl3hM_138, hl4hM_138, hl5hM_138, hl6hM_138, hl7hM_138⟩ := id hLhM_138
                    refine w_vret O dX7_readLine_122 ?_
                    have hz0 := (orF_z c_135).1
                    have eF : orF (fLin bs ln Z (tkS bs ln e) (tkB bs ln e) (tkE bs ln e)) (aTB bs ln (eLin bs ln (tkS bs ln e) (tkB bs ln e) (tkE bs ln e))) = aTB bs ln (tkE bs ln (tkE bs ln (tkE bs ln (tkE bs ln e)))) := by rw [eL1, eL2]; exact fin_2 hz0 (by omega)
                    exact hQ _ _ _ _ _ _ _ (by rw [eF, eL2]; exact ⟨_, _, _, _, _, ⟨hRhM_138.1, hRhM_138.2.1, hRhM_138.2.2.1, hRhM_138.2.2.2.1, hRhM_138.2.2.2.2⟩, hLhM_138, he9hM_138⟩) (fun _ => by rw [eL3]; exact hZhM_134 c_135) ((((sm2.rf.up (by omega)).tr (sm.l hshM_118)).tr hshM_134).tr (sm.l hshM_138))
                  · skip
                    refine w_aload_n (n := 114) O dX7_readLine_113 rfl rfl rfl ?_
                    refine w_iconst (n := 115) O dX7_readLine_114 (v := (nI 2)) (by decide) rfl ?_
                    refine w_cV (n := 118) (ro := none) (R := fun mM' => isR G mM' Y bs rphM_134 ln rghM_134 false hthM_134 adhM_134 hwhM_134 2 (tkB bs ln (tkE bs ln (tkE bs ln (tkE bs ln e)))) (tkE bs ln (tkE bs ln (tkE bs ln (tkE bs ln e)))) (tkB bs ln (tkE bs ln (tkE bs ln (tkE bs ln e)))) tkhM_134 vahM_134 ∧ sm mhM_134 mM' 49 49) (st := []) (st1 := []) (As := [.int (nI 2)]) (b := 49) O dX7_readLine_115 ul_X7_87 um_X7_fails (f_X7_fails hW ⟨hR0.1, hR0.2.1, hR0.2.2.1, hR0.2.2.2.1, hR0.2.2.2.2⟩ hln hbs (fun M' h1 h2 => ⟨rfl, h1, h2⟩)) rfl (by omega) hR0.1 rfl rfl rfl rfl (by omega) (Nat.le_of_ble_eq_true rfl) rfl (fun mhM_139 hM_139 => ?_)
                    obtain ⟨hRhM_139, hshM_139⟩ := hM_139
                    refine w_aload_n (n := 119) O dX7_readLine_118 rfl rfl rfl ?_
                    refine w_cV (n := 122) (ro := none) (R := fun mM' => mhM_139 = mM') (st := []) (st1 := []) (As := []) (b := 49) O dX7_readLine_119 ul_X7_91 um_X7_step (f_X7_step0 hW ⟨hRhM_139.1, hRhM_139.2.1, hRhM_139.2.2.1, hRhM_139.2.2.2.1, hRhM_139.2.2.2.2⟩ hln hbs (by decide) (by omega) ⟨rfl, rfl⟩) rfl (by omega) hRhM_139.1 rfl rfl rfl rfl (by omega) (Nat.le_of_ble_eq_true rfl) rfl (fun mhM_140 hM_140 => ?_)
                    subst hM_140
                    refine w_vret O dX7_readLine_122 ?_
                    have hz0 := (orF_z c_135).1
                    obtain ⟨f1, f2⟩ := fin_3 (X := aTB bs ln (tkE bs ln (tkE bs ln (tkE bs ln (tkE bs ln e))))) hz0 (by omega) (show ¬ tkS bs ln (tkE bs ln (tkE bs ln (tkE bs ln e))) = 4 by omega)
                    have eF : orF (fLin bs ln Z (tkS bs ln e) (tkB bs ln e) (tkE bs ln e)) (aTB bs ln (eLin bs ln (tkS bs ln e) (tkB bs ln e) (tkE bs ln e))) = (2, tkB bs ln (tkE bs ln (tkE bs ln (tkE bs ln e)))) := by rw [eL1, eL2]; exact f1
                    exact hQ _ _ _ _ _ _ _ (by rw [eF, eL2]; exact ⟨_, _, _, _, _, ⟨hRhM_139.1, hRhM_139.2.1, hRhM_139.2.2.1, hRhM_139.2.2.2.1, hRhM_139.2.2.2.2⟩, ⟨hl1hM_134, hl2hM_134, hl3hM_134, hl4hM_134, (show 2 ≤ 6 by decide), (fun _ => rfl), (fun z => absurd z (show ¬ 2 = 0 by decide))⟩, tkE_le he9hM_134⟩) (fun z => absurd z (by rw [eL1]; exact f2)) ((((sm2.rf.up (by omega)).tr (sm.l hshM_118)).tr hshM_134).tr (sm.l hshM_139))
              · skip
                subst hn
                refine w_cV (n := 98) (ro := none) (R := fun mM' => ∃ q1 q2 q3 q4 q5, PM G mM' Y bs q1 ln q2 false q3 q4 q5 (orF (fAdd bs ln Z (tkE bs ln e)) (aTB bs ln (tkE bs ln (tkE bs ln (tkE bs ln e))))) (tkE bs ln (tkE bs ln (tkE bs ln e))) ∧ ((orF (fAdd bs ln Z (tkE bs ln e)) (aTB bs ln (tkE bs ln (tkE bs ln (tkE bs ln e))))).1 = 0 → ZR q1 q2 false q3 q4 q5 (uAdd bs ln Z (tkE bs ln e))) ∧ sm2 mhM_118 mM' 49 49 51 51) (st := []) (st1 := []) (As := [.int (nI 6)]) (b := 49) O dX7_readLine_95 ul_X7_127 um_X7_readMore (f_X7_rmA hW ⟨_, _, _, _, _, ⟨hRhM_118.1, hRhM_118.2.1, hRhM_118.2.2.1, hRhM_118.2.2.2.1, hRhM_118.2.2.2.2⟩, hLhM_118, he9hM_118⟩ hln hbs c_119 ⟨hz1, hz2, c_86.symm.trans hz3, hz4, hz5, hz6⟩ hok (fun M' q1 q2 q3 q4 q5 h1 h2 h3 => ⟨rfl, q1, q2, q3, q4, q5, h1, h2, h3⟩)) rfl (by omega) hRhM_118.1 rfl rfl rfl rfl (by omega) (Nat.le_of_ble_eq_true rfl) rfl (fun mhM_141 hM_141 => ?_)
                obtain ⟨rphM_141, rghM_141, hthM_141, adhM_141, hwhM_141, hPhM_141, hZhM_141, hshM_141⟩ := hM_141
                obtain ⟨bahM_141, sphM_141, hehM_141, tkhM_141, vahM_141, hRhM_141, hLhM_141, he9hM_141⟩ := hPhM_141
                obtain ⟨hl1hM_141, hl2hM_141, hl3hM_141, hl4hM_141, hl5hM_141, hl6hM_141, hl7hM_141⟩ := id hLhM_141
                obtain ⟨eL1, eL2, eL3⟩ := lin_A (ln := ln) (Z := Z) hW9
                refine w_aload_n (n := 99) O dX7_readLine_98 rfl rfl rfl ?_
                refine w_getf (n := 102) O 11 dX7_readLine_99 (by omega) hRhM_141.1 rfl (by decide) uX7 uf_X7_57 rfl rfl ?_
                refine w_if_neN (n := 105) (tgt := 118) O dX7_readLine_102 (by omega) (by decide) rfl (fun c_142 => ?_) (fun c_142 => ?_)
                · skip
                  refine w_aload_n (n := 119) O dX7_readLine_118 rfl rfl rfl ?_
                  refine w_cV (n := 122) (ro := none) (R := fun mM' => mhM_141 = mM') (st := []) (st1 := []) (As := []) (b := 49) O dX7_readLine_119 ul_X7_91 um_X7_step (f_X7_step0 hW ⟨hRhM_141.1, hRhM_141.2.1, hRhM_141.2.2.1, hRhM_141.2.2.2.1, hRhM_141.2.2.2.2⟩ hln hbs c_142 (by omega) ⟨rfl, rfl⟩) rfl (by omega) hRhM_141.1 rfl rfl rfl rfl (by omega) (Nat.le_of_ble_eq_true rfl) rfl (fun mhM_143 hM_143 => ?_)
                  subst hM_143
                  refine w_vret O dX7_readLine_122 ?_
                  obtain ⟨f1, f2⟩ := fin_1 (X := aTB bs ln (tkE bs ln (tkE bs ln (tkE bs ln (tkE bs ln e))))) c_142
                  have eF : orF (fLin bs ln Z (tkS bs ln e) (tkB bs ln e) (tkE bs ln e)) (aTB bs ln (eLin bs ln (tkS bs ln e) (tkB bs ln e) (tkE bs ln e))) = orF (fAdd bs ln Z (tkE bs ln e)) (aTB bs ln (tkE bs ln (tkE bs ln (tkE bs ln e)))) := by rw [eL1, eL2]; exact f1
                  exact hQ _ _ _ _ _ _ _ (by rw [eF, eL2]; exact ⟨_, _, _, _, _, ⟨hRhM_141.1, hRhM_141.2.1, hRhM_141.2.2.1, hRhM_141.2.2.2.1, hRhM_141.2.2.2.2⟩, ⟨hl1hM_141, hl2hM_141, hl3hM_141, hl4hM_141, hl5hM_141, hl6hM_141, fun z => absurd z c_142⟩, tkE_le he9hM_141⟩) (fun z => absurd z (by rw [eL1]; exact f2)) (((sm2.rf.up (by omega)).tr (sm.l hshM_118)).tr hshM_141)
                · skip
                  obtain ⟨q1, q2, q3, q4⟩ := hl7hM_141 c_142
                  subst q1
                  subst q2
                  have hR0 := hRhM_141
                  rw [c_142] at hR0
                  have hq4 := tkS_le bs ln (tkE bs ln (tkE bs ln (tkE bs ln e)))
                  refine w_aload_n (n := 106) O dX7_readLine_105 rfl rfl rfl ?_
                  refine w_getf (n := 109) O 15 dX7_readLine_106 (by omega) hR0.1 rfl (by decide) uX7 uf_X7_66 rfl rfl ?_
                  refine w_iconst (n := 110) O dX7_readLine_109 (v := (nI 3)) (by decide) rfl ?_
                  refine w_icmp_eqN (n := 113) (tgt := 118) O dX7_readLine_110 (by omega) (by omega) (by decide) rfl (fun c_144 => ?_) (fun c_144 => ?_)
                  · skip
                    refine w_aload_n (n := 119) O dX7_readLine_118 rfl rfl rfl ?_
                    refine w_cV (n := 122) (ro := none) (R := fun mM' => PM G mM' Y bs rphM_141 ln rghM_141 false hthM_141 adhM_141 hwhM_141 (aT bs ln (tkE bs ln (tkE bs ln (tkE bs ln (tkE bs ln e)))), tkB bs ln (tkE bs ln (tkE bs ln (tkE bs ln (tkE bs ln e))))) (tkE bs ln (tkE bs ln (tkE bs ln (tkE bs ln e)))) ∧ sm mhM_141 mM' 49 49) (st := []) (st1 := []) (As := []) (b := 49) O dX7_readLine_119 ul_X7_91 um_X7_step (f_X7_step1 hW ⟨hR0.1, hR0.2.1, hR0.2.2.1, hR0.2.2.2.1, hR0.2.2.2.2⟩ hln hbs (by omega) (fun M' h1 h2 => ⟨rfl, h1, h2⟩)) rfl (by omega) hR0.1 rfl rfl rfl rfl (by omega) (Nat.le_of_ble_eq_true rfl) rfl (fun mhM_145 hM_145 => ?_)
                    obtain ⟨⟨bahM_145, sphM_145, hehM_145, tkhM_145, vahM_145, hRhM_145, hLhM_145, he9hM_145⟩, hshM_145⟩ := hM_145
                    obtain ⟨hl1hM_145, hl2hM_145, hl3hM_145, hl4hM_145, hl5hM_145, hl6hM_145, hl7hM_145⟩ := id hLhM_145
                    refine w_vret O dX7_readLine_122 ?_
                    have hz0 := (orF_z c_142).1
                    have eF : orF (fLin bs ln Z (tkS bs ln e) (tkB bs ln e) (tkE bs ln e)) (aTB bs ln (eLin bs ln (tkS bs ln e) (tkB bs ln e) (tkE bs ln e))) = aTB bs ln (tkE bs ln (tkE bs ln (tkE bs ln (tkE bs ln e)))) := by rw [eL1, eL2]; exact fin_2 hz0 (by omega)
                    exact hQ _ _ _ _ _ _ _ (by rw [eF, eL2]; exact ⟨_, _, _, _, _, ⟨hRhM_145.1, hRhM_145.2.1, hRhM_145.2.2.1, hRhM_145.2.2.2.1, hRhM_145.2.2.2.2⟩, hLhM_145, he9hM_145⟩) (fun _ => by rw [eL3]; exact hZhM_141 c_142) ((((sm2.rf.up (by omega)).tr (sm.l hshM_118)).tr hshM_141).tr (sm.l hshM_145))
                  · skip
                    refine w_aload_n (n := 114) O dX7_readLine_113 rfl rfl rfl ?_
                    refine w_iconst (n := 115) O dX7_readLine_114 (v := (nI 2)) (by decide) rfl ?_
                    refine w_cV (n := 118) (ro := none) (R := fun mM' => isR G mM' Y bs rphM_141 ln rghM_141 false hthM_141 adhM_141 hwhM_141 2 (tkB bs ln (tkE bs ln (tkE bs ln (tkE bs ln e)))) (tkE bs ln (tkE bs ln (tkE bs ln (tkE bs ln e)))) (tkB bs ln (tkE bs ln (tkE bs ln (tkE bs ln e)))) tkhM_141 vahM_141 ∧ sm mhM_141 mM' 49 49) (st := []) (st1 := []) (As := [.int (nI 2)]) (b := 49) O dX7_readLine_115 ul_X7_87 um_X7_fails (f_X7_fails hW ⟨hR0.1, hR0.2.1, hR0.2.2.1, hR0.2.2.2.1, hR0.2.2.2.2⟩ hln hbs (fun M' h1 h2 => ⟨rfl, h1, h2⟩)) rfl (by omega) hR0.1 rfl rfl rfl rfl (by omega) (Nat.le_of_ble_eq_true rfl) rfl (fun mhM_146 hM_146 => ?_)
                    obtain ⟨hRhM_146, hshM_146⟩ := hM_146
                    refine w_aload_n (n := 119) O dX7_readLine_118 rfl rfl rfl ?_
                    refine w_cV (n := 122) (ro := none) (R := fun mM' => mhM_146 = mM') (st := []) (st1 := []) (As := []) (b := 49) O dX7_readLine_119 ul_X7_91 um_X7_step (f_X7_step0 hW ⟨hRhM_146.1, hRhM_146.2.1, hRhM_146.2.2.1, hRhM_146.2.2.2.1, hRhM_146.2.2.2.2⟩ hln hbs (by decide) (by omega) ⟨rfl, rfl⟩) rfl (by omega) hRhM_146.1 rfl rfl rfl rfl (by omega) (Nat.le_of_ble_eq_true rfl) rfl (fun mhM_147 hM_147 => ?_)
                    subst hM_147
                    refine w_vret O dX7_readLine_122 ?_
                    have hz0 := (orF_z c_142).1
                    obtain ⟨f1, f2⟩ := fin_3 (X := aTB bs ln (tkE bs ln (tkE bs ln (tkE bs ln (tkE bs ln e))))) hz0 (by omega) (show ¬ tkS bs ln (tkE bs ln (tkE bs ln (tkE bs ln e))) = 4 by omega)
                    have eF : orF (fLin bs ln Z (tkS bs ln e) (tkB bs ln e) (tkE bs ln e)) (aTB bs ln (eLin bs ln (tkS bs ln e) (tkB bs ln e) (tkE bs ln e))) = (2, tkB bs ln (tkE bs ln (tkE bs ln (tkE bs ln e)))) := by rw [eL1, eL2]; exact f1
                    exact hQ _ _ _ _ _ _ _ (by rw [eF, eL2]; exact ⟨_, _, _, _, _, ⟨hRhM_146.1, hRhM_146.2.1, hRhM_146.2.2.1, hRhM_146.2.2.2.1, hRhM_146.2.2.2.2⟩, ⟨hl1hM_141, hl2hM_141, hl3hM_141, hl4hM_141, (show 2 ≤ 6 by decide), (fun _ => rfl), (fun z => absurd z (show ¬ 2 = 0 by decide))⟩, tkE_le he9hM_141⟩) (fun z => absurd z (by rw [eL1]; exact f2)) ((((sm2.rf.up (by omega)).tr (sm.l hshM_118)).tr hshM_141).tr (sm.l hshM_146))
              · skip
                omega
            · skip
              refine w_vret O dX7_readLine_92 ?_
              obtain ⟨ha1, ha2⟩ := aT_1 (bs := bs) (ln := ln) (p := tkE bs ln e) (by omega)
              have hRz := hRhM_118
              rw [show (aT bs ln (tkE bs ln e), tkB bs ln (tkE bs ln e)).1 = 1 from ha1] at hRz
              have eL : fLin bs ln Z (tkS bs ln e) (tkB bs ln e) (tkE bs ln e) = (1, tkB bs ln (tkE bs ln e)) := lin_lex hn7 hW9 (fun z => by omega) (fun z => absurd z (by omega)) ha2
              have eF : orF (fLin bs ln Z (tkS bs ln e) (tkB bs ln e) (tkE bs ln e)) (aTB bs ln (eLin bs ln (tkS bs ln e) (tkB bs ln e) (tkE bs ln e))) = (1, tkB bs ln (tkE bs ln e)) := by rw [eL]; rfl
              exact hQ _ _ _ _ _ _ _ (by rw [eF]; exact ⟨_, _, _, _, _, hRz, ⟨hl1hM_118, hl2hM_118, hl3hM_118, hl4hM_118, (show 1 ≤ 6 by decide), (fun _ => hl6hM_118 (show ¬ aT bs ln (tkE bs ln e) = 0 by omega)), (fun z => absurd z (show ¬ 1 = 0 by decide))⟩, eLin_le _ _ hE2⟩) (fun z => absurd z (by rw [eL]; exact (show ¬ 1 = 0 by decide))) ((sm2.rf.up (by omega)).tr (sm.l hshM_118))
        · skip
          refine w_aload_n (n := 48) O dX7_readLine_47 rfl rfl rfl ?_
          refine w_getf (n := 51) O 4 dX7_readLine_48 (by omega) hR.1 rfl (by decide) uX7 uf_X7_123 rfl rfl ?_
          refine w_if_eqB (n := 54) (tgt := 59) O dX7_readLine_51 (by decide) rfl (fun c_148 => ?_) (fun c_148 => ?_)
          · skip
            refine w_aload_n (n := 60) O dX7_readLine_59 rfl rfl rfl ?_
            refine w_aload_n (n := 61) O dX7_readLine_60 rfl rfl rfl ?_
            refine w_getf (n := 64) O 4 dX7_readLine_61 (by omega) hR.1 rfl (by decide) uX7 uf_X7_123 rfl rfl ?_
            refine w_if_neB (n := 67) (tgt := 73) O dX7_readLine_64 (by decide) rfl (fun c_149 => absurd (c_148.symm.trans c_149) (by decide)) (fun c_149 => ?_)
            refine w_iload_n (n := 68) O dX7_readLine_67 rfl rfl rfl ?_
            refine w_bipush (n := 70) O dX7_readLine_68 (v := (nI 7)) (by decide) rfl ?_
            refine w_icmp_neN (n := 73) (tgt := 77) O dX7_readLine_70 (by omega) (by omega) (by decide) rfl (fun c_150 => by omega) (fun c_150 => ?_)
            refine w_iconst (n := 74) O dX7_readLine_73 (v := (nI 1)) (by decide) rfl ?_
            refine w_goto (tgt := 78) O dX7_readLine_74 (by decide) ?_
            refine w_top (bI true) (by decide) ?_
            refine w_putf (n := 81) (fs' := [.ref (gb_ad G 50), .int (Y 1), .ref (gb_ad G 51), .int (nI (rg)), .int (bI (true)), .int (nI (ht)), .int (nI (ad)), .int (dI hw), .ref (gb_ad G 52), .int (nI (ln)), .int (Y 10), .int (nI 0), .int (nI (ba)), .int (nI (tkE bs ln e)), .int (nI (tkB bs ln e)), .int (nI (tk)), .int (nI (va)), .ref (gb_ad G 53), .ref (gb_ad G 54), .int (Y 19), .int (Y 20), .int (Y 21), .int (Y 22), .ref (gb_ad G 55), .int (Y 24), .ref (gb_ad G 56), .int (Y 26), .ref (gb_ad G 57), .ref (gb_ad G 58), .ref (gb_ad G 59), .ref (gb_ad G 60), .int (Y 31)]) O 4 dX7_readLine_78 (by omega) hR.1 rfl (by decide) uX7 uf_X7_123 tyX7 tyX7_ok nmX7 rfl (bI_nar _) (bI_fit _) (Nat.le_of_ble_eq_true rfl) rfl rfl ?_
            refine w_aload_n (n := 82) O dX7_readLine_81 rfl rfl rfl ?_
            refine w_cV (n := 85) (ro := none) (R := fun mM' => PM G mM' Y bs rp ln rg true ht ad hw (aT bs ln (tkE bs ln e), tkB bs ln (tkE bs ln e)) (tkE bs ln e) ∧ sm (va_up mM (49) (.inr (7, [.ref (gb_ad G 50), .int (Y 1), .ref (gb_ad G 51), .int (nI (rg)), .int (bI (true)), .int (nI (ht)), .int (nI (ad)), .int (dI hw), .ref (gb_ad G 52), .int (nI (ln)), .int (Y 10), .int (nI 0), .int (nI (ba)), .int (nI (tkE bs ln e)), .int (nI (tkB bs ln e)), .int (nI (tk)), .int (nI (va)), .ref (gb_ad G 53), .ref (gb_ad G 54), .int (Y 19), .int (Y 20), .int (Y 21), .int (Y 22), .ref (gb_ad G 55), .int (Y 24), .ref (gb_ad G 56), .int (Y 26), .ref (gb_ad G 57), .ref (gb_ad G 58), .ref (gb_ad G 59), .ref (gb_ad G 60), .int (Y 31)]))) mM' 49 49) (st := []) (st1 := []) (As := []) (b := 49) O dX7_readLine_82 ul_X7_91 um_X7_step (f_X7_step1 hW ⟨(va_up_self _ _ _), ((va_up_ne _ _ (by decide)).trans hR.2.1), ((va_up_ne _ _ (by decide)).trans hR.2.2.1), ((va_up_ne _ _ (by decide)).trans hR.2.2.2.1), ((va_up_ne _ _ (by decide)).trans hR.2.2.2.2)⟩ hln hbs (by omega) (fun M' h1 h2 => ⟨rfl, h1, h2⟩)) rfl (by omega) (va_up_self _ _ _) rfl rfl rfl rfl (by omega) (Nat.le_of_ble_eq_true rfl) rfl (fun mhM_151 hM_151 => ?_)
            obtain ⟨⟨bahM_151, sphM_151, hehM_151, tkhM_151, vahM_151, hRhM_151, hLhM_151, he9hM_151⟩, hshM_151⟩ := hM_151
            obtain ⟨hl1hM_151, hl2hM_151, hl3hM_151, hl4hM_151, hl5hM_151, hl6hM_151, hl7hM_151⟩ := id hLhM_151
            have hat := aT_le bs ln (tkE bs ln e)
            refine w_aload_n (n := 86) O dX7_readLine_85 rfl rfl rfl ?_
            refine w_getf (n := 89) O 11 dX7_readLine_86 (by omega) hRhM_151.1 rfl (by decide) uX7 uf_X7_57 rfl rfl ?_
            refine w_if_leN (n := 92) (tgt := 93) O dX7_readLine_89 (by omega) (by decide) rfl (fun c_152 => ?_) (fun c_152 => ?_)
            · skip
              refine w_aload_n (n := 94) O dX7_readLine_93 rfl rfl rfl ?_
              refine w_iload_n (n := 95) O dX7_readLine_94 rfl rfl rfl ?_
              rcases (show n ≤ 3 ∨ n = 4 ∨ n = 5 ∨ n = 6 ∨ n = 7 by omega) with hn | hn | hn | hn | hn
              · skip
                omega
              · skip
                omega
              · skip
                omega
              · skip
                omega
              · skip
                subst hn
                refine w_cV (n := 98) (ro := none) (R := fun mM' => ∃ q1 q2 q3 q4 q5, PM G mM' Y bs q1 ln q2 true q3 q4 q5 (orF (orF (aN bs ln 3 12 (tkE bs ln e), tkB bs ln (tkE bs ln e)) (aN bs ln 0 10 (tkE bs ln (tkE bs ln e)), tkB bs ln (tkE bs ln (tkE bs ln e)))) (aTB bs ln (tkE bs ln (tkE bs ln (tkE bs ln e))))) (tkE bs ln (tkE bs ln (tkE bs ln e))) ∧ ((orF (orF (aN bs ln 3 12 (tkE bs ln e), tkB bs ln (tkE bs ln e)) (aN bs ln 0 10 (tkE bs ln (tkE bs ln e)), tkB bs ln (tkE bs ln (tkE bs ln e)))) (aTB bs ln (tkE bs ln (tkE bs ln (tkE bs ln e))))).1 = 0 → ZR q1 q2 true q3 q4 q5 (uAsk bs ln Z (tkE bs ln e))) ∧ sm2 mhM_151 mM' 49 49 51 51) (st := []) (st1 := []) (As := [.int (nI 7)]) (b := 49) O dX7_readLine_95 ul_X7_127 um_X7_readMore (f_X7_rmQ hW ⟨_, _, _, _, _, ⟨hRhM_151.1, hRhM_151.2.1, hRhM_151.2.2.1, hRhM_151.2.2.2.1, hRhM_151.2.2.2.2⟩, hLhM_151, he9hM_151⟩ hln hbs c_152 hZ hok rfl (fun M' q1 q2 q3 q4 q5 h1 h2 h3 => ⟨rfl, q1, q2, q3, q4, q5, h1, h2, h3⟩)) rfl (by omega) hRhM_151.1 rfl rfl rfl rfl (by omega) (Nat.le_of_ble_eq_true rfl) rfl (fun mhM_153 hM_153 => ?_)
                obtain ⟨rphM_153, rghM_153, hthM_153, adhM_153, hwhM_153, hPhM_153, hZhM_153, hshM_153⟩ := hM_153
                obtain ⟨bahM_153, sphM_153, hehM_153, tkhM_153, vahM_153, hRhM_153, hLhM_153, he9hM_153⟩ := hPhM_153
                obtain ⟨hl1hM_153, hl2hM_153, hl3hM_153, hl4hM_153, hl5hM_153, hl6hM_153, hl7hM_153⟩ := id hLhM_153
                obtain ⟨eL1, eL2, eL3⟩ := lin_Q (ln := ln) (Z := Z) hW9 (hz3.symm.trans c_148)
                refine w_aload_n (n := 99) O dX7_readLine_98 rfl rfl rfl ?_
                refine w_getf (n := 102) O 11 dX7_readLine_99 (by omega) hRhM_153.1 rfl (by decide) uX7 uf_X7_57 rfl rfl ?_
                refine w_if_neN (n := 105) (tgt := 118) O dX7_readLine_102 (by omega) (by decide) rfl (fun c_154 => ?_) (fun c_154 => ?_)
                · skip
                  refine w_aload_n (n := 119) O dX7_readLine_118 rfl rfl rfl ?_
                  refine w_cV (n := 122) (ro := none) (R := fun mM' => mhM_153 = mM') (st := []) (st1 := []) (As := []) (b := 49) O dX7_readLine_119 ul_X7_91 um_X7_step (f_X7_step0 hW ⟨hRhM_153.1, hRhM_153.2.1, hRhM_153.2.2.1, hRhM_153.2.2.2.1, hRhM_153.2.2.2.2⟩ hln hbs c_154 (by omega) ⟨rfl, rfl⟩) rfl (by omega) hRhM_153.1 rfl rfl rfl rfl (by omega) (Nat.le_of_ble_eq_true rfl) rfl (fun mhM_155 hM_155 => ?_)
                  subst hM_155
                  refine w_vret O dX7_readLine_122 ?_
                  obtain ⟨f1, f2⟩ := fin_1 (X := aTB bs ln (tkE bs ln (tkE bs ln (tkE bs ln (tkE bs ln e))))) c_154
                  have eF : orF (fLin bs ln Z (tkS bs ln e) (tkB bs ln e) (tkE bs ln e)) (aTB bs ln (eLin bs ln (tkS bs ln e) (tkB bs ln e) (tkE bs ln e))) = orF (orF (aN bs ln 3 12 (tkE bs ln e), tkB bs ln (tkE bs ln e)) (aN bs ln 0 10 (tkE bs ln (tkE bs ln e)), tkB bs ln (tkE bs ln (tkE bs ln e)))) (aTB bs ln (tkE bs ln (tkE bs ln (tkE bs ln e)))) := by rw [eL1, eL2]; exact f1
                  exact hQ _ _ _ _ _ _ _ (by rw [eF, eL2]; exact ⟨_, _, _, _, _, ⟨hRhM_153.1, hRhM_153.2.1, hRhM_153.2.2.1, hRhM_153.2.2.2.1, hRhM_153.2.2.2.2⟩, ⟨hl1hM_153, hl2hM_153, hl3hM_153, hl4hM_153, hl5hM_153, hl6hM_153, fun z => absurd z c_154⟩, tkE_le he9hM_153⟩) (fun z => absurd z (by rw [eL1]; exact f2)) (((sm2.rf.up (by omega)).tr (sm.l hshM_151)).tr hshM_153)
                · skip
                  obtain ⟨q1, q2, q3, q4⟩ := hl7hM_153 c_154
                  subst q1
                  subst q2
                  have hR0 := hRhM_153
                  rw [c_154] at hR0
                  have hq4 := tkS_le bs ln (tkE bs ln (tkE bs ln (tkE bs ln e)))
                  refine w_aload_n (n := 106) O dX7_readLine_105 rfl rfl rfl ?_
                  refine w_getf (n := 109) O 15 dX7_readLine_106 (by omega) hR0.1 rfl (by decide) uX7 uf_X7_66 rfl rfl ?_
                  refine w_iconst (n := 110) O dX7_readLine_109 (v := (nI 3)) (by decide) rfl ?_
                  refine w_icmp_eqN (n := 113) (tgt := 118) O dX7_readLine_110 (by omega) (by omega) (by decide) rfl (fun c_156 => ?_) (fun c_156 => ?_)
                  · skip
                    refine w_aload_n (n := 119) O dX7_readLine_118 rfl rfl rfl ?_
                    refine w_cV (n := 122) (ro := none) (R := fun mM' => PM G mM' Y bs rphM_153 ln rghM_153 true hthM_153 adhM_153 hwhM_153 (aT bs ln (tkE bs ln (tkE bs ln (tkE bs ln (tkE bs ln e)))), tkB bs ln (tkE bs ln (tkE bs ln (tkE bs ln (tkE bs ln e))))) (tkE bs ln (tkE bs ln (tkE bs ln (tkE bs ln e)))) ∧ sm mhM_153 mM' 49 49) (st := []) (st1 := []) (As := []) (b := 49) O dX7_readLine_119 ul_X7_91 um_X7_step (f_X7_step1 hW ⟨hR0.1, hR0.2.1, hR0.2.2.1, hR0.2.2.2.1, hR0.2.2.2.2⟩ hln hbs (by omega) (fun M' h1 h2 => ⟨rfl, h1, h2⟩)) rfl (by omega) hR0.1 rfl rfl rfl rfl (by omega) (Nat.le_of_ble_eq_true rfl) rfl (fun mhM_157 hM_157 => ?_)
                    obtain ⟨⟨bahM_157, sphM_157, hehM_157, tkhM_157, vahM_157, hRhM_157, hLhM_157, he9hM_157⟩, hshM_157⟩ := hM_157
                    obtain ⟨hl1hM_157, hl2hM_157, hl3hM_157, hl4hM_157, hl5hM_157, hl6hM_157, hl7hM_157⟩ := id hLhM_157
                    refine w_vret O dX7_readLine_122 ?_
                    have hz0 := (orF_z c_154).1
                    have eF : orF (fLin bs ln Z (tkS bs ln e) (tkB bs ln e) (tkE bs ln e)) (aTB bs ln (eLin bs ln (tkS bs ln e) (tkB bs ln e) (tkE bs ln e))) = aTB bs ln (tkE bs ln (tkE bs ln (tkE bs ln (tkE bs ln e)))) := by rw [eL1, eL2]; exact fin_2 hz0 (by omega)
                    exact hQ _ _ _ _ _ _ _ (by rw [eF, eL2]; exact ⟨_, _, _, _, _, ⟨hRhM_157.1, hRhM_157.2.1, hRhM_157.2.2.1, hRhM_157.2.2.2.1, hRhM_157.2.2.2.2⟩, hLhM_157, he9hM_157⟩) (fun _ => by rw [eL3]; exact hZhM_153 c_154) ((((sm2.rf.up (by omega)).tr (sm.l hshM_151)).tr hshM_153).tr (sm.l hshM_157))
                  · skip
                    refine w_aload_n (n := 114) O dX7_readLine_113 rfl rfl rfl ?_
                    refine w_iconst (n := 115) O dX7_readLine_114 (v := (nI 2)) (by decide) rfl ?_
                    refine w_cV (n := 118) (ro := none) (R := fun mM' => isR G mM' Y bs rphM_153 ln rghM_153 true hthM_153 adhM_153 hwhM_153 2 (tkB bs ln (tkE bs ln (tkE bs ln (tkE bs ln e)))) (tkE bs ln (tkE bs ln (tkE bs ln (tkE bs ln e)))) (tkB bs ln (tkE bs ln (tkE bs ln (tkE bs ln e)))) tkhM_153 vahM_153 ∧ sm mhM_153 mM' 49 49) (st := []) (st1 := []) (As := [.int (nI 2)]) (b := 49) O dX7_readLine_115 ul_X7_87 um_X7_fails (f_X7_fails hW ⟨hR0.1, hR0.2.1, hR0.2.2.1, hR0.2.2.2.1, hR0.2.2.2.2⟩ hln hbs (fun M' h1 h2 => ⟨rfl, h1, h2⟩)) rfl (by omega) hR0.1 rfl rfl rfl rfl (by omega) (Nat.le_of_ble_eq_true rfl) rfl (fun mhM_158 hM_158 => ?_)
                    obtain ⟨hRhM_158, hshM_158⟩ := hM_158
                    refine w_aload_n (n := 119) O dX7_readLine_118 rfl rfl rfl ?_
                    refine w_cV (n := 122) (ro := none) (R := fun mM' => mhM_158 = mM') (st := []) (st1 := []) (As := []) (b := 49) O dX7_readLine_119 ul_X7_91 um_X7_step (f_X7_step0 hW ⟨hRhM_158.1, hRhM_158.2.1, hRhM_158.2.2.1, hRhM_158.2.2.2.1, hRhM_158.2.2.2.2⟩ hln hbs (by decide) (by omega) ⟨rfl, rfl⟩) rfl (by omega) hRhM_158.1 rfl rfl rfl rfl (by omega) (Nat.le_of_ble_eq_true rfl) rfl (fun mhM_159 hM_159 => ?_)
                    subst hM_159
                    refine w_vret O dX7_readLine_122 ?_
                    have hz0 := (orF_z c_154).1
                    obtain ⟨f1, f2⟩ := fin_3 (X := aTB bs ln (tkE bs ln (tkE bs ln (tkE bs ln (tkE bs ln e))))) hz0 (by omega) (show ¬ tkS bs ln (tkE bs ln (tkE bs ln (tkE bs ln e))) = 4 by omega)
                    have eF : orF (fLin bs ln Z (tkS bs ln e) (tkB bs ln e) (tkE bs ln e)) (aTB bs ln (eLin bs ln (tkS bs ln e) (tkB bs ln e) (tkE bs ln e))) = (2, tkB bs ln (tkE bs ln (tkE bs ln (tkE bs ln e)))) := by rw [eL1, eL2]; exact f1
                    exact hQ _ _ _ _ _ _ _ (by rw [eF, eL2]; exact ⟨_, _, _, _, _, ⟨hRhM_158.1, hRhM_158.2.1, hRhM_158.2.2.1, hRhM_158.2.2.2.1, hRhM_158.2.2.2.2⟩, ⟨hl1hM_153, hl2hM_153, hl3hM_153, hl4hM_153, (show 2 ≤ 6 by decide), (fun _ => rfl), (fun z => absurd z (show ¬ 2 = 0 by decide))⟩, tkE_le he9hM_153⟩) (fun z => absurd z (by rw [eL1]; exact f2)) ((((sm2.rf.up (by omega)).tr (sm.l hshM_151)).tr hshM_153).tr (sm.l hshM_158))
            · skip
              refine w_vret O dX7_readLine_92 ?_
              obtain ⟨ha1, ha2⟩ := aT_1 (bs := bs) (ln := ln) (p := tkE bs ln e) (by omega)
              have hRz := hRhM_151
              rw [show (aT bs ln (tkE bs ln e), tkB bs ln (tkE bs ln e)).1 = 1 from ha1] at hRz
              have eL : fLin bs ln Z (tkS bs ln e) (tkB bs ln e) (tkE bs ln e) = (1, tkB bs ln (tkE bs ln e)) := lin_lex hn7 hW9 (fun z => by omega) (fun z => hz3.symm.trans c_148) ha2
              have eF : orF (fLin bs ln Z (tkS bs ln e) (tkB bs ln e) (tkE bs ln e)) (aTB bs ln (eLin bs ln (tkS bs ln e) (tkB bs ln e) (tkE bs ln e))) = (1, tkB bs ln (tkE bs ln e)) := by rw [eL]; rfl
              exact hQ _ _ _ _ _ _ _ (by rw [eF]; exact ⟨_, _, _, _, _, hRz, ⟨hl1hM_151, hl2hM_151, hl3hM_151, hl4hM_151, (show 1 ≤ 6 by decide), (fun _ => hl6hM_151 (show ¬ aT bs ln (tkE bs ln e) = 0 by omega)), (fun z => absurd z (show ¬ 1 = 0 by decide))⟩, eLin_le _ _ hE2⟩) (fun z => absurd z (by rw [eL]; exact (show ¬ 1 = 0 by decide))) ((sm2.rf.up (by omega)).tr (sm.l hshM_151))
          · skip
            refine w_aload_n (n := 55) O dX7_readLine_54 rfl rfl rfl ?_
            refine w_iconst (n := 56) O dX7_readLine_55 (v := (nI 4)) (by decide) rfl ?_
            refine w_cV (n := 59) (ro := none) (R := fun mM' => isR G mM' Y bs rp ln rg ia ht ad hw 4 (tkB bs ln e) (tkE bs ln e) (tkB bs ln e) tk va ∧ sm mM mM' 49 49) (st := []) (st1 := []) (As := [.int (nI 4)]) (b := 49) O dX7_readLine_56 ul_X7_87 um_X7_fails (f_X7_fails hW ⟨hR.1, hR.2.1, hR.2.2.1, hR.2.2.2.1, hR.2.2.2.2⟩ hln hbs (fun M' h1 h2 => ⟨rfl, h1, h2⟩)) rfl (by omega) hR.1 rfl rfl rfl rfl (by omega) (Nat.le_of_ble_eq_true rfl) rfl (fun mhM_160 hM_160 => ?_)
            obtain ⟨hRhM_160, hshM_160⟩ := hM_160
            refine w_aload_n (n := 60) O dX7_readLine_59 rfl rfl rfl ?_
            refine w_aload_n (n := 61) O dX7_readLine_60 rfl rfl rfl ?_
            refine w_getf (n := 64) O 4 dX7_readLine_61 (by omega) hRhM_160.1 rfl (by decide) uX7 uf_X7_123 rfl rfl ?_
            refine w_if_neB (n := 67) (tgt := 73) O dX7_readLine_64 (by decide) rfl (fun c_161 => ?_) (fun c_161 => absurd (c_148.symm.trans c_161) (by decide))
            refine w_iconst (n := 74) O dX7_readLine_73 (v := (nI 1)) (by decide) rfl ?_
            refine w_goto (tgt := 78) O dX7_readLine_74 (by decide) ?_
            refine w_top (bI true) (by decide) ?_
            refine w_putf (n := 81) (fs' := [.ref (gb_ad G 50), .int (Y 1), .ref (gb_ad G 51), .int (nI (rg)), .int (bI (true)), .int (nI (ht)), .int (nI (ad)), .int (dI hw), .ref (gb_ad G 52), .int (nI (ln)), .int (Y 10), .int (nI 4), .int (nI (tkB bs ln e)), .int (nI (tkE bs ln e)), .int (nI (tkB bs ln e)), .int (nI (tk)), .int (nI (va)), .ref (gb_ad G 53), .ref (gb_ad G 54), .int (Y 19), .int (Y 20), .int (Y 21), .int (Y 22), .ref (gb_ad G 55), .int (Y 24), .ref (gb_ad G 56), .int (Y 26), .ref (gb_ad G 57), .ref (gb_ad G 58), .ref (gb_ad G 59), .ref (gb_ad G 60), .int (Y 31)]) O 4 dX7_readLine_78 (by omega) hRhM_160.1 rfl (by decide) uX7 uf_X7_123 tyX7 tyX7_ok nmX7 rfl (bI_nar _) (bI_fit _) (Nat.le_of_ble_eq_true rfl) rfl rfl ?_
            refine w_aload_n (n := 82) O dX7_readLine_81 rfl rfl rfl ?_
            refine w_cV (n := 85) (ro := none) (R := fun mM' => (va_up mhM_160 (49) (.inr (7, [.ref (gb_ad G 50), .int (Y 1), .ref (gb_ad G 51), .int (nI (rg)), .int (bI (true)), .int (nI (ht)), .int (nI (ad)), .int (dI hw), .ref (gb_ad G 52), .int (nI (ln)), .int (Y 10), .int (nI 4), .int (nI (tkB bs ln e)), .int (nI (tkE bs ln e)), .int (nI (tkB bs ln e)), .int (nI (tk)), .int (nI (va)), .ref (gb_ad G 53), .ref (gb_ad G 54), .int (Y 19), .int (Y 20), .int (Y 21), .int (Y 22), .ref (gb_ad G 55), .int (Y 24), .ref (gb_ad G 56), .int (Y 26), .ref (gb_ad G 57), .ref (gb_ad G 58), .ref (gb_ad G 59), .ref (gb_ad G 60), .int (Y 31)]))) = mM') (st := []) (st1 := []) (As := []) (b := 49) O dX7_readLine_82 ul_X7_91 um_X7_step (f_X7_step0 hW ⟨(va_up_self _ _ _), ((va_up_ne _ _ (by decide)).trans hRhM_160.2.1), ((va_up_ne _ _ (by decide)).trans hRhM_160.2.2.1), ((va_up_ne _ _ (by decide)).trans hRhM_160.2.2.2.1), ((va_up_ne _ _ (by decide)).trans hRhM_160.2.2.2.2)⟩ hln hbs (by decide) (by omega) ⟨rfl, rfl⟩) rfl (by omega) (va_up_self _ _ _) rfl rfl rfl rfl (by omega) (Nat.le_of_ble_eq_true rfl) rfl (fun mhM_162 hM_162 => ?_)
            subst hM_162
            have hat := aT_le bs ln (tkE bs ln e)
            refine w_aload_n (n := 86) O dX7_readLine_85 rfl rfl rfl ?_
            refine w_getf (n := 89) O 11 dX7_readLine_86 (by omega) (va_up_self _ _ _) rfl (by decide) uX7 uf_X7_57 rfl rfl ?_
            refine w_if_leN (n := 92) (tgt := 93) O dX7_readLine_89 (by omega) (by decide) rfl (fun c_163 => by omega) (fun c_163 => ?_)
            refine w_vret O dX7_readLine_92 ?_
            have eL : fLin bs ln Z (tkS bs ln e) (tkB bs ln e) (tkE bs ln e) = (4, tkB bs ln e) := by have hn9 : n = 7 := (by omega); subst hn9; exact lin_T hW9 (hz3.symm.trans c_148)
            have eF : orF (fLin bs ln Z (tkS bs ln e) (tkB bs ln e) (tkE bs ln e)) (aTB bs ln (eLin bs ln (tkS bs ln e) (tkB bs ln e) (tkE bs ln e))) = (4, tkB bs ln e) := by rw [eL]; rfl
            exact hQ _ _ _ _ _ _ _ (by rw [eF]; exact ⟨_, _, _, _, _, ⟨(va_up_self _ _ _), ((va_up_ne _ _ (by decide)).trans hRhM_160.2.1), ((va_up_ne _ _ (by decide)).trans hRhM_160.2.2.1), ((va_up_ne _ _ (by decide)).trans hRhM_160.2.2.2.1), ((va_up_ne _ _ (by decide)).trans hRhM_160.2.2.2.2)⟩, ⟨hE1, hE2, by omega, hva9, (show 4 ≤ 6 by decide), (fun _ => rfl), (fun z => absurd z (show ¬ 4 = 0 by decide))⟩, eLin_le _ _ hE2⟩) (fun z => absurd z (by rw [eL]; exact (show ¬ 4 = 0 by decide))) ((sm2.rf.tr (sm.l hshM_160)).up (by omega))
      · skip
        refine w_aload_n (n := 37) O dX7_readLine_36 rfl rfl rfl ?_
        refine w_iconst (n := 38) O dX7_readLine_37 (v := (nI 5)) (by decide) rfl ?_
        refine w_cV (n := 41) (ro := none) (R := fun mM' => isR G mM' Y bs rp ln rg ia ht ad hw 5 (tkB bs ln e) (tkE bs ln e) (tkB bs ln e) tk va ∧ sm mM mM' 49 49) (st := []) (st1 := []) (As := [.int (nI 5)]) (b := 49) O dX7_readLine_38 ul_X7_87 um_X7_fails (f_X7_fails hW ⟨hR.1, hR.2.1, hR.2.2.1, hR.2.2.2.1, hR.2.2.2.2⟩ hln hbs (fun M' h1 h2 => ⟨rfl, h1, h2⟩)) rfl (by omega) hR.1 rfl rfl rfl rfl (by omega) (Nat.le_of_ble_eq_true rfl) rfl (fun mhM_164 hM_164 => ?_)
        obtain ⟨hRhM_164, hshM_164⟩ := hM_164
        refine w_iload_n (n := 42) O dX7_readLine_41 rfl rfl rfl ?_
        refine w_bipush (n := 44) O dX7_readLine_42 (v := (nI 7)) (by decide) rfl ?_
        refine w_icmp_neN (n := 47) (tgt := 59) O dX7_readLine_44 (by omega) (by omega) (by decide) rfl (fun c_165 => ?_) (fun c_165 => by omega)
        refine w_aload_n (n := 60) O dX7_readLine_59 rfl rfl rfl ?_
        refine w_aload_n (n := 61) O dX7_readLine_60 rfl rfl rfl ?_
        refine w_getf (n := 64) O 4 dX7_readLine_61 (by omega) hRhM_164.1 rfl (by decide) uX7 uf_X7_123 rfl rfl ?_
        refine w_if_neB (n := 67) (tgt := 73) O dX7_readLine_64 (by decide) rfl (fun c_166 => ?_) (fun c_166 => ?_)
        · skip
          refine w_iconst (n := 74) O dX7_readLine_73 (v := (nI 1)) (by decide) rfl ?_
          refine w_goto (tgt := 78) O dX7_readLine_74 (by decide) ?_
          refine w_top (bI true) (by decide) ?_
          refine w_putf (n := 81) (fs' := [.ref (gb_ad G 50), .int (Y 1), .ref (gb_ad G 51), .int (nI (rg)), .int (bI (true)), .int (nI (ht)), .int (nI (ad)), .int (dI hw), .ref (gb_ad G 52), .int (nI (ln)), .int (Y 10), .int (nI 5), .int (nI (tkB bs ln e)), .int (nI (tkE bs ln e)), .int (nI (tkB bs ln e)), .int (nI (tk)), .int (nI (va)), .ref (gb_ad G 53), .ref (gb_ad G 54), .int (Y 19), .int (Y 20), .int (Y 21), .int (Y 22), .ref (gb_ad G 55), .int (Y 24), .ref (gb_ad G 56), .int (Y 26), .ref (gb_ad G 57), .ref (gb_ad G 58), .ref (gb_ad G 59), .ref (gb_ad G 60), .int (Y 31)]) O 4 dX7_readLine_78 (by omega) hRhM_164.1 rfl (by decide) uX7 uf_X7_123 tyX7 tyX7_ok nmX7 rfl (bI_nar _) (bI_fit _) (Nat.le_of_ble_eq_true rfl) rfl rfl ?_
          refine w_aload_n (n := 82) O dX7_readLine_81 rfl rfl rfl ?_
          refine w_cV (n := 85) (ro := none) (R := fun mM' => (va_up mhM_164 (49) (.inr (7, [.ref (gb_ad G 50), .int (Y 1), .ref (gb_ad G 51), .int (nI (rg)), .int (bI (true)), .int (nI (ht)), .int (nI (ad)), .int (dI hw), .ref (gb_ad G 52), .int (nI (ln)), .int (Y 10), .int (nI 5), .int (nI (tkB bs ln e)), .int (nI (tkE bs ln e)), .int (nI (tkB bs ln e)), .int (nI (tk)), .int (nI (va)), .ref (gb_ad G 53), .ref (gb_ad G 54), .int (Y 19), .int (Y 20), .int (Y 21), .int (Y 22), .ref (gb_ad G 55), .int (Y 24), .ref (gb_ad G 56), .int (Y 26), .ref (gb_ad G 57), .ref (gb_ad G 58), .ref (gb_ad G 59), .ref (gb_ad G 60), .int (Y 31)]))) = mM') (st := []) (st1 := []) (As := []) (b := 49) O dX7_readLine_82 ul_X7_91 um_X7_step (f_X7_step0 hW ⟨(va_up_self _ _ _), ((va_up_ne _ _ (by decide)).trans hRhM_164.2.1), ((va_up_ne _ _ (by decide)).trans hRhM_164.2.2.1), ((va_up_ne _ _ (by decide)).trans hRhM_164.2.2.2.1), ((va_up_ne _ _ (by decide)).trans hRhM_164.2.2.2.2)⟩ hln hbs (by decide) (by omega) ⟨rfl, rfl⟩) rfl (by omega) (va_up_self _ _ _) rfl rfl rfl rfl (by omega) (Nat.le_of_ble_eq_true rfl) rfl (fun mhM_167 hM_167 => ?_)
          subst hM_167
          have hat := aT_le bs ln (tkE bs ln e)
          refine w_aload_n (n := 86) O dX7_readLine_85 rfl rfl rfl ?_
          refine w_getf (n := 89) O 11 dX7_readLine_86 (by omega) (va_up_self _ _ _) rfl (by decide) uX7 uf_X7_57 rfl rfl ?_
          refine w_if_leN (n := 92) (tgt := 93) O dX7_readLine_89 (by omega) (by decide) rfl (fun c_168 => by omega) (fun c_168 => ?_)
          refine w_vret O dX7_readLine_92 ?_
          have eL : fLin bs ln Z (tkS bs ln e) (tkB bs ln e) (tkE bs ln e) = (5, tkB bs ln e) := lin_F (hW9.trans (show nmW (some n) = 0 from (show ∀ n, n ≤ 3 → nmW (some n) = 0 by decide) n (by omega))) (by omega)
          have eF : orF (fLin bs ln Z (tkS bs ln e) (tkB bs ln e) (tkE bs ln e)) (aTB bs ln (eLin bs ln (tkS bs ln e) (tkB bs ln e) (tkE bs ln e))) = (5, tkB bs ln e) := by rw [eL]; rfl
          exact hQ _ _ _ _ _ _ _ (by rw [eF]; exact ⟨_, _, _, _, _, ⟨(va_up_self _ _ _), ((va_up_ne _ _ (by decide)).trans hRhM_164.2.1), ((va_up_ne _ _ (by decide)).trans hRhM_164.2.2.1), ((va_up_ne _ _ (by decide)).trans hRhM_164.2.2.2.1), ((va_up_ne _ _ (by decide)).trans hRhM_164.2.2.2.2)⟩, ⟨hE1, hE2, by omega, hva9, (show 5 ≤ 6 by decide), (fun _ => rfl), (fun z => absurd z (show ¬ 5 = 0 by decide))⟩, eLin_le _ _ hE2⟩) (fun z => absurd z (by rw [eL]; exact (show ¬ 5 = 0 by decide))) ((sm2.rf.tr (sm.l hshM_164)).up (by omega))
        · skip
          refine w_iload_n (n := 68) O dX7_readLine_67 rfl rfl rfl ?_
          refine w_bipush (n := 70) O dX7_readLine_68 (v := (nI 7)) (by decide) rfl ?_
          refine w_icmp_neN (n := 73) (tgt := 77) O dX7_readLine_70 (by omega) (by omega) (by decide) rfl (fun c_169 => ?_) (fun c_169 => by omega)
          refine w_iconst (n := 78) O dX7_readLine_77 (v := (nI 0)) (by decide) rfl ?_
          refine w_top (bI false) (by decide) ?_
          refine w_putf (n := 81) (fs' := [.ref (gb_ad G 50), .int (Y 1), .ref (gb_ad G 51), .int (nI (rg)), .int (bI (false)), .int (nI (ht)), .int (nI (ad)), .int (dI hw), .ref (gb_ad G 52), .int (nI (ln)), .int (Y 10), .int (nI 5), .int (nI (tkB bs ln e)), .int (nI (tkE bs ln e)), .int (nI (tkB bs ln e)), .int (nI (tk)), .int (nI (va)), .ref (gb_ad G 53), .ref (gb_ad G 54), .int (Y 19), .int (Y 20), .int (Y 21), .int (Y 22), .ref (gb_ad G 55), .int (Y 24), .ref (gb_ad G 56), .int (Y 26), .ref (gb_ad G 57), .ref (gb_ad G 58), .ref (gb_ad G 59), .ref (gb_ad G 60), .int (Y 31)]) O 4 dX7_readLine_78 (by omega) hRhM_164.1 rfl (by decide) uX7 uf_X7_123 tyX7 tyX7_ok nmX7 rfl (bI_nar _) (bI_fit _) (Nat.le_of_ble_eq_true rfl) rfl rfl ?_
          refine w_aload_n (n := 82) O dX7_readLine_81 rfl rfl rfl ?_
          refine w_cV (n := 85) (ro := none) (R := fun mM' => (va_up mhM_164 (49) (.inr (7, [.ref (gb_ad G 50), .int (Y 1), .ref (gb_ad G 51), .int (nI (rg)), .int (bI (false)), .int (nI (ht)), .int (nI (ad)), .int (dI hw), .ref (gb_ad G 52), .int (nI (ln)), .int (Y 10), .int (nI 5), .int (nI (tkB bs ln e)), .int (nI (tkE bs ln e)), .int (nI (tkB bs ln e)), .int (nI (tk)), .int (nI (va)), .ref (gb_ad G 53), .ref (gb_ad G 54), .int (Y 19), .int (Y 20), .int (Y 21), .int (Y 22), .ref (gb_ad G 55), .int (Y 24), .ref (gb_ad G 56), .int (Y 26), .ref (gb_ad G 57), .ref (gb_ad G 58), .ref (gb_ad G 59), .ref (gb_ad G 60), .int (Y 31)]))) = mM') (st := []) (st1 := []) (As := []) (b := 49) O dX7_readLine_82 ul_X7_91 um_X7_step (f_X7_step0 hW ⟨(va_up_self _ _ _), ((va_up_ne _ _ (by decide)).trans hRhM_164.2.1), ((va_up_ne _ _ (by decide)).trans hRhM_164.2.2.1), ((va_up_ne _ _ (by decide)).trans hRhM_164.2.2.2.1), ((va_up_ne _ _ (by decide)).trans hRhM_164.2.2.2.2)⟩ hln hbs (by decide) (by omega) ⟨rfl, rfl⟩) rfl (by omega) (va_up_self _ _ _) rfl rfl rfl rfl (by omega) (Nat.le_of_ble_eq_true rfl) rfl (fun mhM_170 hM_170 => ?_)
          subst hM_170
          have hat := aT_le bs ln (tkE bs ln e)
          refine w_aload_n (n := 86) O dX7_readLine_85 rfl rfl rfl ?_
          refine w_getf (n := 89) O 11 dX7_readLine_86 (by omega) (va_up_self _ _ _) rfl (by decide) uX7 uf_X7_57 rfl rfl ?_
          refine w_if_leN (n := 92) (tgt := 93) O dX7_readLine_89 (by omega) (by decide) rfl (fun c_171 => by omega) (fun c_171 => ?_)
          refine w_vret O dX7_readLine_92 ?_
          have eL : fLin bs ln Z (tkS bs ln e) (tkB bs ln e) (tkE bs ln e) = (5, tkB bs ln e) := lin_F (hW9.trans (show nmW (some n) = 0 from (show ∀ n, n ≤ 3 → nmW (some n) = 0 by decide) n (by omega))) (by omega)
          have eF : orF (fLin bs ln Z (tkS bs ln e) (tkB bs ln e) (tkE bs ln e)) (aTB bs ln (eLin bs ln (tkS bs ln e) (tkB bs ln e) (tkE bs ln e))) = (5, tkB bs ln e) := by rw [eL]; rfl
          exact hQ _ _ _ _ _ _ _ (by rw [eF]; exact ⟨_, _, _, _, _, ⟨(va_up_self _ _ _), ((va_up_ne _ _ (by decide)).trans hRhM_164.2.1), ((va_up_ne _ _ (by decide)).trans hRhM_164.2.2.1), ((va_up_ne _ _ (by decide)).trans hRhM_164.2.2.2.1), ((va_up_ne _ _ (by decide)).trans hRhM_164.2.2.2.2)⟩, ⟨hE1, hE2, by omega, hva9, (show 5 ≤ 6 by decide), (fun _ => rfl), (fun z => absurd z (show ¬ 5 = 0 by decide))⟩, eLin_le _ _ hE2⟩) (fun z => absurd z (by rw [eL]; exact (show ¬ 5 = 0 by decide))) ((sm2.rf.tr (sm.l hshM_164)).up (by omega))
  · skip
    have hW5 := nm_bad c_3 htk
    refine w_aload_n (n := 18) O dX7_readLine_17 rfl rfl rfl ?_
    refine w_iconst (n := 19) O dX7_readLine_18 (v := (nI 2)) (by decide) rfl ?_
    refine w_cV (n := 22) (ro := none) (R := fun mM' => isR G mM' Y bs rp ln rg ia ht ad hw 2 (tkB bs ln e) (tkE bs ln e) (tkB bs ln e) tk va ∧ sm mM mM' 49 49) (st := []) (st1 := []) (As := [.int (nI 2)]) (b := 49) O dX7_readLine_19 ul_X7_87 um_X7_fails (f_X7_fails hW ⟨hR.1, hR.2.1, hR.2.2.1, hR.2.2.2.1, hR.2.2.2.2⟩ hln hbs (fun M' h1 h2 => ⟨rfl, h1, h2⟩)) rfl (by omega) hR.1 rfl rfl rfl rfl (by omega) (Nat.le_of_ble_eq_true rfl) rfl (fun mhM_172 hM_172 => ?_)
    obtain ⟨hRhM_172, hshM_172⟩ := hM_172
    refine w_vret O dX7_readLine_22 ?_
    have eL : fLin bs ln Z (tkS bs ln e) (tkB bs ln e) (tkE bs ln e) = (2, tkB bs ln e) := lin_5 hW5
    have eF : orF (fLin bs ln Z (tkS bs ln e) (tkB bs ln e) (tkE bs ln e)) (aTB bs ln (eLin bs ln (tkS bs ln e) (tkB bs ln e) (tkE bs ln e))) = (2, tkB bs ln e) := by rw [eL]; rfl
    exact hQ _ _ _ _ _ _ _ (by rw [eF]; exact ⟨_, _, _, _, _, ⟨hRhM_172.1, hRhM_172.2.1, hRhM_172.2.2.1, hRhM_172.2.2.2.1, hRhM_172.2.2.2.2⟩, ⟨hE1, hE2, by omega, hva9, (show 2 ≤ 6 by decide), (fun _ => rfl), (fun z => absurd z (show ¬ 2 = 0 by decide))⟩, eLin_le _ _ hE2⟩) (fun z => absurd z (by rw [eL]; exact (show ¬ 2 = 0 by decide))) (sm2.rf.tr (sm.l hshM_172))
