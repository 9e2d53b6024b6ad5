set_option maxRecDepth 100000 in
set_option maxHeartbeats 4000000 in
theorem f_X6_isConfession {G : gb_G} (hW : gW G) {Q : Option Value → gb_M → Prop} {mM : gb_M} {tn : Nat} (hB : isB G mM tn) {T : Tw} (hT : isT G mM 1 T) (ok : okT T) {g v : Int32} (hQ : Q (some (.int (bI (isGv g T.2.2.2.1 && wIn v (nI 0) (nI 9))))) mM) : Fn G 2 yX6_isConfession cX6_isConfession 3 (some .boolean) [.ref (gb_ad G 0), .int (g), .int (v)] mM Q := by
  have hN := hW.2.2.1
  refine Fn.of hW.1 [(0, .ref (gb_ad G 0)), (1, .int (g)), (2, .int (v))] (by decide) (Nat.le_of_ble_eq_true rfl) rfl ?_
  intro X O
  refine w_aload_n (n := 1) O dX6_isConfession_0 rfl rfl rfl ?_
  refine w_iload_n (n := 2) O dX6_isConfession_1 rfl rfl rfl ?_
  refine w_cV (n := 5) (ro := some (.int (bI (isGv (g) T.2.2.2.1)))) (R := fun mM' => mM = mM') (st := []) (st1 := [.int (bI (isGv (g) T.2.2.2.1))]) (As := [.int (g)]) (b := 0) O dX6_isConfession_2 ul_X6_110 um_X6_isGiver (f_X6_isGiver (T := T) hW hB ⟨hT.1, hT.2.1, hT.2.2.1, hT.2.2.2⟩ ok ⟨rfl, rfl⟩) rfl (by omega) hB rfl rfl rfl rfl (by decide) (Nat.le_of_ble_eq_true rfl) rfl (fun mhM_1 hM_1 => ?_)
  subst hM_1
  refine w_if_eqB (n := 8) (tgt := 25) O dX6_isConfession_5 (by decide) rfl (fun c_2 => ?_) (fun c_2 => ?_)
  · skip
    refine w_iconst (n := 26) O dX6_isConfession_25 (v := (nI 0)) (by decide) rfl ?_
    refine w_zret O dX6_isConfession_26 (by decide) ?_
    have e : (isGv g T.2.2.2.1 && wIn v (nI 0) (nI 9)) = false := by first | (rw [c_2]; rfl) | (rw [c_2]; simp)
    rw [e] at hQ
    exact hQ
  · skip
    refine w_iload_n (n := 9) O dX6_isConfession_8 rfl rfl rfl ?_
    refine w_iconst (n := 10) O dX6_isConfession_9 (v := (nI 0)) (by decide) rfl ?_
    refine w_gets (n := 13) O dX6_isConfession_10 (gz_HIG hW O) uf_X6_159 rfl ?_
    refine w_iconst (n := 14) O dX6_isConfession_13 (v := (nI 1)) (by decide) rfl ?_
    refine w_tald (n := 15) O dX6_isConfession_14 (gz_HIGt hW O) (by omega) (by decide) rfl ?_
    refine w_top (nI 9) (by decide) ?_
    refine w_cS (n := 18) (ro := some (.int (bI (wIn (v) (nI (0)) (nI (9)))))) (R := fun mM' => mM = mM') (st := []) (st1 := [.int (bI (wIn (v) (nI (0)) (nI (9))))]) (As := [.int (v), .int (nI 0), .int (nI 9)]) O dX6_isConfession_15 ul_X6_66 um_X6_within (f_X6_within hW ⟨rfl, rfl⟩) rfl rfl rfl (by decide) (Nat.le_of_ble_eq_true rfl) rfl (fun mhM_3 hM_3 => ?_)
    subst hM_3
    refine w_if_eqB (n := 21) (tgt := 25) O dX6_isConfession_18 (by decide) rfl (fun c_4 => ?_) (fun c_4 => ?_)
    · skip
      refine w_iconst (n := 26) O dX6_isConfession_25 (v := (nI 0)) (by decide) rfl ?_
      refine w_zret O dX6_isConfession_26 (by decide) ?_
      have e : (isGv g T.2.2.2.1 && wIn v (nI 0) (nI 9)) = false := by first | (rw [c_2]; rfl) | (rw [c_4]; simp)
      rw [e] at hQ
      exact hQ
    · skip
      refine w_iconst (n := 22) O dX6_isConfession_21 (v := (nI 1)) (by decide) rfl ?_
      refine w_goto (tgt := 26) O dX6_isConfession_22 (by decide) ?_
      refine w_zret O dX6_isConfession_26 (by decide) ?_
      have e : (isGv g T.2.2.2.1 && wIn v (nI 0) (nI 9)) = true := by rw [c_2, c_4]; rfl
      rw [e] at hQ
      exact hQ
set_option maxRecDepth 100000 in
set_option maxHeartbeats 4000000 in
theorem f_X6_read {G : gb_G} (hW : gW G) {Q : Option Value → gb_M → Prop} {mM : gb_M} {T : Tw} {im : Nat → Tw} {kp : Nat → Bool} {bs : Nat → Nat} {ln fa : Nat} {st sf : Nat → Nat} {sn : Nat} {sh : Sh} {sc : Nat → Nat → Int32} {tn : Nat} (hC : isCW G mM T im kp bs ln fa st sf sn sh sc tn) {k lane f n : Int32}  (hQ : ∀ M', isCW G M' (s_readT T sh sc k lane f n) im kp bs ln fa st sf sn sh sc (s_readN T sh sc tn k lane f n) → sm mM M' 0 48 → Q (some (.int (a_read T sh sc k lane f n))) M') : Fn G 3 yX6_read cX6_read 8 (some .int) [.ref (gb_ad G 0), .int (k), .int (lane), .int (f), .int (n)] mM Q := by
  obtain ⟨hB, hT, hok, hU, hMx, hP, hS, hG, hI, hK, hH⟩ := hC
  have ok := hok.1
  have hn4 := ok.1
  have hst9 := hok.2.1
  have hln := hok.2.2.2.1
  have hsn6 := hok.2.2.2.2.2.2.1
  have hN := hW.2.2.1
  refine Fn.of hW.1 [(0, .ref (gb_ad G 0)), (1, .int (k)), (2, .int (lane)), (3, .int (f)), (4, .int (n))] (by decide) (Nat.le_of_ble_eq_true rfl) rfl ?_
  intro X O
  refine w_iload_n (n := 1) O dX6_read_0 rfl rfl rfl ?_
  refine w_cS (n := 4) (ro := some (.int (bI (wIn (k) (nI 0) (nI 3))))) (R := fun mM' => mM = mM') (st := []) (st1 := [.int (bI (wIn (k) (nI 0) (nI 3)))]) (As := [.int (k)]) O dX6_read_1 ul_X6_239 um_X6_isSheet (f_X6_isSheet hW ⟨rfl, rfl⟩) rfl rfl rfl (by decide) (Nat.le_of_ble_eq_true rfl) rfl (fun mhM_1 hM_1 => ?_)
  subst hM_1
  refine w_if_eqB (n := 7) (tgt := 27) O dX6_read_4 (by decide) rfl (fun c_2 => ?_) (fun c_2 => ?_)
  · skip
    refine w_iconst (n := 28) O dX6_read_27 (v := (-1)) (by decide) rfl ?_
    refine w_iret O dX6_read_28 ?_
    have e0 : a_read T sh sc k lane f n = -1 := by unfold a_read; rw [if_neg (by rw [show rdOk k lane n = false from by simp [rdOk, c_2]]; decide)]
    have e1 : s_readT T sh sc k lane f n = T := by unfold s_readT; rw [if_neg (fun w => by rw [show rdOk k lane n = false from by simp [rdOk, c_2]] at w; exact absurd w.1 (by decide))]
    have e2 : s_readN T sh sc tn k lane f n = tn := by unfold s_readN; rw [if_neg (fun w => by rw [show rdOk k lane n = false from by simp [rdOk, c_2]] at w; exact absurd w.1 (by decide))]
    rw [e0, e1, e2] at hQ
    try dsimp only at hQ
    exact hQ _ ⟨hB, ⟨hT.1, hT.2.1, hT.2.2.1, hT.2.2.2⟩, hok, hU, hMx, hP, hS, hG, hI, hK, hH⟩ sm.rf
  · skip
    have hr_j := c_2
    obtain ⟨j, ja, jb, rfl⟩ := wIn_t (by omega) c_2 (by omega)
    have cl_j : (nI j).toNatClampNeg = j := nI_clamp (by omega)
    refine w_iload_n (n := 8) O dX6_read_7 rfl rfl rfl ?_
    refine w_iconst (n := 9) O dX6_read_8 (v := (nI 0)) (by decide) rfl ?_
    refine w_iconst (n := 10) O dX6_read_9 (v := (nI 2)) (by decide) rfl ?_
    refine w_cS (n := 13) (ro := some (.int (bI (wIn (lane) (nI (0)) (nI (2)))))) (R := fun mM' => mM = mM') (st := []) (st1 := [.int (bI (wIn (lane) (nI (0)) (nI (2))))]) (As := [.int (lane), .int (nI 0), .int (nI 2)]) O dX6_read_10 ul_X6_66 um_X6_within (f_X6_within hW ⟨rfl, rfl⟩) rfl rfl rfl (by decide) (Nat.le_of_ble_eq_true rfl) rfl (fun mhM_3 hM_3 => ?_)
    subst hM_3
    refine w_if_eqB (n := 16) (tgt := 27) O dX6_read_13 (by decide) rfl (fun c_4 => ?_) (fun c_4 => ?_)
    · skip
      refine w_iconst (n := 28) O dX6_read_27 (v := (-1)) (by decide) rfl ?_
      refine w_iret O dX6_read_28 ?_
      have e0 : a_read T sh sc (nI j) lane f n = -1 := by unfold a_read; rw [if_neg (by rw [show rdOk (nI j) lane n = false from by simp [rdOk, c_4]]; decide)]
      have e1 : s_readT T sh sc (nI j) lane f n = T := by unfold s_readT; rw [if_neg (fun w => by rw [show rdOk (nI j) lane n = false from by simp [rdOk, c_4]] at w; exact absurd w.1 (by decide))]
      have e2 : s_readN T sh sc tn (nI j) lane f n = tn := by unfold s_readN; rw [if_neg (fun w => by rw [show rdOk (nI j) lane n = false from by simp [rdOk, c_4]] at w; exact absurd w.1 (by decide))]
      rw [e0, e1, e2] at hQ
      try dsimp only at hQ
      exact hQ _ ⟨hB, ⟨hT.1, hT.2.1, hT.2.2.1, hT.2.2.2⟩, hok, hU, hMx, hP, hS, hG, hI, hK, hH⟩ sm.rf
    · skip
      have hr_q := c_4
      obtain ⟨q, qa, qb, rfl⟩ := wIn_t (by omega) c_4 (by omega)
      have cl_q : (nI q).toNatClampNeg = q := nI_clamp (by omega)
      refine w_iload (n := 18) O dX6_read_16 rfl rfl ?_
      refine w_iconst (n := 19) O dX6_read_18 (v := (nI 0)) (by decide) rfl ?_
      refine w_bipush (n := 21) O dX6_read_19 (v := (nI 20)) (by decide) rfl ?_
      refine w_cS (n := 24) (ro := some (.int (bI (wIn (n) (nI (0)) (nI (20)))))) (R := fun mM' => mM = mM') (st := []) (st1 := [.int (bI (wIn (n) (nI (0)) (nI (20))))]) (As := [.int (n), .int (nI 0), .int (nI 20)]) O dX6_read_21 ul_X6_66 um_X6_within (f_X6_within hW ⟨rfl, rfl⟩) rfl rfl rfl (by decide) (Nat.le_of_ble_eq_true rfl) rfl (fun mhM_5 hM_5 => ?_)
      subst hM_5
      refine w_if_neB (n := 27) (tgt := 29) O dX6_read_24 (by decide) rfl (fun c_6 => ?_) (fun c_6 => ?_)
      · skip
        have hr_t := c_6
        obtain ⟨t, ta, tb, rfl⟩ := wIn_t (by omega) c_6 (by omega)
        have cl_t : (nI t).toNatClampNeg = t := nI_clamp (by omega)
        obtain ⟨pf, hpf, hSk⟩ := hH.2 j (by omega)
        have hla2 : laI (sh j) ≤ 2 := by cases e : sh j with | none => exact Nat.zero_le _ | some q => exact (hok.2.2.2.2.2.2.2.2.1 j (by omega) q e).1
        refine w_aload_n (n := 30) O dX6_read_29 rfl rfl rfl ?_
        refine w_getf (n := 33) O 8 dX6_read_30 (by omega) hB rfl (by decide) uX6 uf_X6_58 rfl rfl ?_
        refine w_iload_n (n := 34) O dX6_read_33 rfl rfl rfl ?_
        refine w_aald (n := 35) (b := gb_ad G (41 + 2 * j)) O dX6_read_34 (by omega) hH.1 hW.2.1.2.2.1 (vp_in_nI (by omega) (by decide)) (by rw [nI_clamp (by omega)]) rfl ?_
        refine w_astore (n := 37) (lv' := [(5, .ref (gb_ad G (41 + 2 * j))), (0, .ref (gb_ad G 0)), (1, .int (nI (j))), (2, .int (nI (q))), (3, .int (f)), (4, .int (nI (t)))]) O dX6_read_35 (by decide) rfl rfl ?_
        have htn := hok.2.2.2.2.2.2.2.2.2
        refine w_aload (n := 39) O dX6_read_37 rfl rfl ?_
        refine w_iload_n (n := 40) O dX6_read_39 rfl rfl rfl ?_
        refine w_iload_n (n := 41) O dX6_read_40 rfl rfl rfl ?_
        refine w_iload (n := 43) O dX6_read_41 rfl rfl ?_
        refine w_cV (n := 46) (ro := some (.int (nI (fstF (pairF (szI (sh j)) (laI (sh j)) q f) t 0)))) (R := fun mM' => isS G mM' (41 + 2 * j) (szI (sh j)) (if fstF (pairF (szI (sh j)) (laI (sh j)) q f) t 0 < t then pairF (szI (sh j)) (laI (sh j)) q f (fstF (pairF (szI (sh j)) (laI (sh j)) q f) t 0) else 0) (laI (sh j)) (sc j) ∧ sm mM mM' (41 + 2 * j) (41 + 2 * j + 1)) (st := []) (st1 := [.int (nI (fstF (pairF (szI (sh j)) (laI (sh j)) q f) t 0))]) (As := [.int (nI (q)), .int (f), .int (nI (t))]) (b := 41 + 2 * j) O dX6_read_43 ul_X6_252 um_X3_wholePairs (f_X3_wholePairs hW ⟨hSk.1, hSk.2⟩ (by omega) (by omega) (by omega) (by omega) (fun M' h1 h2 => ⟨rfl, h1, h2⟩)) rfl (by omega) hSk.1 rfl rfl rfl rfl (by decide) (Nat.le_of_ble_eq_true rfl) rfl (fun mhM_7 hM_7 => ?_)
        obtain ⟨hShM_7, hshM_7⟩ := hM_7
        have ewh : fstF (pairF (szI (sh j)) (laI (sh j)) q f) t 0 = rdW sh j q f t := rfl
        have hwl : rdW sh j q f t ≤ t := by have := fstF_le (pairF (szI (sh j)) (laI (sh j)) q f) t 0; unfold rdW; omega
        have hz0 : ∀ i, i < rdW sh j q f t → pairF (szI (sh j)) (laI (sh j)) q f i = 0 := fun i hi => fst_below t 0 i (Nat.zero_le _) hi
        generalize ewg : rdW sh j q f t = wh at ewh hwl hz0
        have ewg2 : fstF (pairF (szI (sh j)) (laI (sh j)) q f) t 0 = wh := ewg
        rw [ewg2] at hShM_7 ⊢
        have hsz40 : ∀ z, sh j = some z → z.2 ≤ 40 := fun z hz => (hok.2.2.2.2.2.2.2.2.1 j (by omega) z hz).2
        refine w_istore (n := 48) (lv' := [(6, .int (nI (wh))), (5, .ref (gb_ad G (41 + 2 * j))), (0, .ref (gb_ad G 0)), (1, .int (nI (j))), (2, .int (nI (q))), (3, .int (f)), (4, .int (nI (t)))]) O dX6_read_46 (by decide) rfl rfl ?_
        refine w_iconst (n := 49) O dX6_read_48 (v := (nI 0)) (by decide) rfl ?_
        refine w_istore (n := 51) (lv' := [(7, .int (nI 0)), (6, .int (nI (wh))), (5, .ref (gb_ad G (41 + 2 * j))), (0, .ref (gb_ad G 0)), (1, .int (nI (j))), (2, .int (nI (q))), (3, .int (f)), (4, .int (nI (t)))]) O dX6_read_49 (by decide) rfl rfl ?_
        have RA : ∀ (k : Nat) (i : Nat), wh - i = k → i ≤ wh → (∀ k, k < i → conf T (sc j) f.toNatClampNeg k = true) → Wm G X 8 Q 51 [(0, .ref (gb_ad G 0)), (1, .int (nI (j))), (2, .int (nI (q))), (3, .int (f)), (4, .int (nI (t))), (5, .ref (gb_ad G (41 + 2 * j))), (6, .int (nI (wh))), (7, .int (nI (i)))] [] mhM_7 := by
          intro k
          induction k using Nat.strongRecOn with
          | ind k ih_RA =>
            intro i hk hi hcf
            refine w_iload (n := 53) O dX6_read_51 rfl rfl ?_
            refine w_iload (n := 55) O dX6_read_53 rfl rfl ?_
            refine w_icmp_geN (n := 58) (tgt := 103) O dX6_read_55 (by omega) (by omega) (by decide) rfl (fun c_8 => ?_) (fun c_8 => ?_)
            · skip
              refine w_iconst (n := 104) O dX6_read_103 (v := (nI 0)) (by decide) rfl ?_
              refine w_istore (n := 106) (lv' := [(7, .int (nI 0)), (0, .ref (gb_ad G 0)), (1, .int (nI (j))), (2, .int (nI (q))), (3, .int (f)), (4, .int (nI (t))), (5, .ref (gb_ad G (41 + 2 * j))), (6, .int (nI (wh)))]) O dX6_read_104 (by decide) rfl rfl ?_
              have RB : ∀ (k : Nat) (i2 : Nat) (m3 : gb_M), wh - i2 = k → i2 ≤ wh → isT G m3 1 (rdT T (sc j) f.toNatClampNeg i2) → sm mhM_7 m3 1 4 → Wm G X 8 Q 106 [(0, .ref (gb_ad G 0)), (1, .int (nI (j))), (2, .int (nI (q))), (3, .int (f)), (4, .int (nI (t))), (5, .ref (gb_ad G (41 + 2 * j))), (6, .int (nI (wh))), (7, .int (nI (i2)))] [] m3 := by
                intro k
                induction k using Nat.strongRecOn with
                | ind k ih_RB =>
                  intro i2 m3 hk hi2 hT3 hs3
                  have hcf2 : ∀ k, k < wh → conf T (sc j) f.toNatClampNeg k = true := fun k hk => hcf k (by omega)
                  obtain ⟨okr, hr2⟩ := rdT_ok (i := i2) ok (fun k hk => hcf2 k (by omega))
                  refine w_iload (n := 108) O dX6_read_106 rfl rfl ?_
                  refine w_iload (n := 110) O dX6_read_108 rfl rfl ?_
                  refine w_icmp_geN (n := 113) (tgt := 153) O dX6_read_110 (by omega) (by omega) (by decide) rfl (fun c_9 => ?_) (fun c_9 => ?_)
                  · skip
                    refine w_aload_n (n := 154) O dX6_read_153 rfl rfl rfl ?_
                    refine w_aload (n := 156) O dX6_read_154 rfl rfl ?_
                    refine w_getf (n := 159) O 2 dX6_read_156 (by omega) ((hs3 (41 + 2 * j) (by omega)).trans hShM_7.1) rfl (by decide) uX3 uf_X6_262 rfl rfl ?_
                    refine w_putf (n := 162) (fs' := [.ref (gb_ad G 1), .ref (gb_ad G 5), .ref (gb_ad G 9), .ref (gb_ad G 12), .ref (gb_ad G 14), .ref (gb_ad G 19), .ref (gb_ad G 30), .ref (gb_ad G 39), .ref (gb_ad G 40), .int (nI (if wh < t then pairF (szI (sh j)) (laI (sh j)) q f (wh) else 0))]) O 9 dX6_read_159 (by omega) ((hs3 (0) (by omega)).trans ((hshM_7 (0) (by omega)).trans hB)) rfl (by decide) uX6 uf_X6_62 tyX6 tyX6_ok nmX6 rfl rfl rfl (Nat.le_of_ble_eq_true rfl) rfl rfl ?_
                    refine w_iload (n := 164) O dX6_read_162 rfl rfl ?_
                    refine w_iret O dX6_read_164 ?_
                    have ew : rdWh sh (nI j) (nI q) f (nI t) = wh := by unfold rdWh; rw [cl_j, cl_q, cl_t]; exact ewg
                    have eb : rdBd T sh sc (nI j) (nI q) f (nI t) = wh := by unfold rdBd rdB; rw [ew, cl_j]; exact fst_all (fun k hk => if_pos (hcf2 k hk))
                    have ei2 : wh = i2 := by omega
                    subst ei2
                    have hpfn : (if wh < t then pairF (szI (sh j)) (laI (sh j)) q f (wh) else 0) ≤ 4 := by split; (have := pfl_le (szI (sh j)) (laI (sh j)) q; unfold pairF; exact Nat.le_trans (this _) (by decide)); exact Nat.zero_le _
                    have hHn : cH G _ (upS sh j (sh j)) (upC sc j (sc j)) := cH_set (M' := (va_up m3 (0) (.inr (6, [.ref (gb_ad G 1), .ref (gb_ad G 5), .ref (gb_ad G 9), .ref (gb_ad G 12), .ref (gb_ad G 14), .ref (gb_ad G 19), .ref (gb_ad G 30), .ref (gb_ad G 39), .ref (gb_ad G 40), .int (nI (if wh < t then pairF (szI (sh j)) (laI (sh j)) q f (wh) else 0))])))) hH (by omega) ⟨((va_up_ne _ _ (by omega)).trans ((hs3 (41 + 2 * j) (by omega)).trans hShM_7.1)), ((va_up_ne _ _ (by omega)).trans ((hs3 (41 + 2 * j + 1) (by omega)).trans hShM_7.2))⟩ hpfn (fun q h1 h2 h3 => ((va_up_ne _ _ (by omega)).trans ((hs3 q (by omega)).trans ((hshM_7 q (by omega)).trans rfl))))
                    rw [show upS sh j (sh j) = sh from funext (fun q => by unfold upS; split; (rename_i e; rw [e]); rfl), show upC sc j (sc j) = sc from funext (fun q => by unfold upC; split; (rename_i e; rw [e]); rfl)] at hHn
                    have e0 : a_read T sh sc (nI j) (nI q) f (nI t) = (nI (wh)) := by unfold a_read; rw [if_pos (by unfold rdOk; rw [hr_j, hr_q, hr_t]; rfl), eb, ew, if_neg (Nat.lt_irrefl _)]
                    have e1 : s_readT T sh sc (nI j) (nI q) f (nI t) = rdT T (sc j) f.toNatClampNeg wh := by unfold s_readT; rw [eb, ew, cl_j, if_pos ⟨by unfold rdOk; rw [hr_j, hr_q, hr_t]; rfl, Nat.lt_irrefl _⟩]
                    have e2 : s_readN T sh sc tn (nI j) (nI q) f (nI t) = if wh < t then pairF (szI (sh j)) (laI (sh j)) q f (wh) else 0 := by unfold s_readN; rw [eb, ew, cl_j, cl_q, cl_t, if_pos ⟨by unfold rdOk; rw [hr_j, hr_q, hr_t]; rfl, Nat.lt_irrefl _⟩]
                    rw [e0, e1, e2] at hQ
                    exact hQ _ ⟨(va_up_self _ _ _), ⟨((va_up_ne _ _ (by decide)).trans hT3.1), ((va_up_ne _ _ (by decide)).trans hT3.2.1), ((va_up_ne _ _ (by decide)).trans hT3.2.2.1), ((va_up_ne _ _ (by decide)).trans hT3.2.2.2)⟩, ⟨okr, by rw [hr2]; exact hok.2.1, fun k hk => ⟨(hok.2.2.1 k hk).1, (hok.2.2.1 k hk).2.1, fun z => by rw [hr2]; exact (hok.2.2.1 k hk).2.2 z⟩, hok.2.2.2.1, hok.2.2.2.2.1, hok.2.2.2.2.2.1, hok.2.2.2.2.2.2.1, hok.2.2.2.2.2.2.2.1, hok.2.2.2.2.2.2.2.2.1, hpfn⟩, (((hU.kp (kp_sm hshM_7 (by omega))).kp (kp_sm hs3 (by omega))).kp (kp_up (by omega))), (((hMx.kp (kp_sm hshM_7 (by omega))).kp (kp_sm hs3 (by omega))).kp (kp_up (by omega))), (((hP.kp (kp_sm hshM_7 (by omega))).kp (kp_sm hs3 (by omega))).kp (kp_up (by omega))), (((hS.kp (kp_sm hshM_7 (by omega))).kp (kp_sm hs3 (by omega))).kp (kp_up (by omega))), (((hG.kp (kp_sm hshM_7 (by omega))).kp (kp_sm hs3 (by omega))).kp (kp_up (by omega))), (((hI.kp (kp_sm hshM_7 (by omega))).kp (kp_sm hs3 (by omega))).kp (kp_up (by omega))), ((va_up_ne _ _ (by decide)).trans ((hs3 (39) (by omega)).trans ((hshM_7 (39) (by omega)).trans hK))), hHn⟩ (((sm.rf.tr (hshM_7.mono (by omega) (by omega))).tr (hs3.mono (by omega) (by omega))).up (by omega) (by omega))
                  · skip
                    obtain ⟨hf1, hf2⟩ := rd_f hsz40 (show 0 < wh by omega) (by omega) hz0
                    obtain ⟨fn, efn⟩ : ∃ fn, fn = f.toNatClampNeg := ⟨_, rfl⟩
                    rw [← efn] at hf1 hf2
                    subst hf1
                    have clf : (nI fn).toNatClampNeg = fn := efn.symm
                    have hf3 := hf2 i2 (by omega)
                    have hcc := hcf2 i2 (by omega)
                    unfold conf at hcc
                    rw [clf, Bool.and_eq_true] at hcc
                    obtain ⟨g8, hg8, hcg⟩ := isGv_t (by omega) hcc.1
                    obtain ⟨v8, _, hv8, hcv⟩ := wIn_t (by decide) hcc.2 (by omega)
                    refine w_aload_n (n := 114) O dX6_read_113 rfl rfl rfl ?_
                    refine w_getf (n := 117) O 0 dX6_read_114 (by omega) ((hs3 (0) (by omega)).trans ((hshM_7 (0) (by omega)).trans hB)) rfl (by decide) uX6 uf_X6_10 rfl rfl ?_
                    refine w_aload (n := 119) O dX6_read_117 rfl rfl ?_
                    refine w_getf (n := 122) O 0 dX6_read_119 (by omega) ((hs3 (41 + 2 * j) (by omega)).trans hShM_7.1) rfl (by decide) uX3 uf_X6_256 rfl rfl ?_
                    refine w_iload_n (n := 123) O dX6_read_122 rfl rfl rfl ?_
                    refine w_iconst (n := 124) O dX6_read_123 (v := (nI 2)) (by decide) rfl ?_
                    refine w_iload (n := 126) O dX6_read_124 rfl rfl ?_
                    refine w_imulN (n := 127) O dX6_read_126 rfl ?_
                    refine w_iaddN (n := 128) O dX6_read_127 rfl ?_
                    refine w_ialdA (n := 129) O dX6_read_128 hW.2.1 (by omega) ((hs3 (41 + 2 * j + 1) (by omega)).trans hShM_7.2) (by omega) (by decide) rfl ?_
                    refine w_top (nI g8) hcg ?_
                    refine w_iconst (n := 130) O dX6_read_129 (v := (nI 1)) (by decide) rfl ?_
                    refine w_aload (n := 132) O dX6_read_130 rfl rfl ?_
                    refine w_getf (n := 135) O 0 dX6_read_132 (by omega) ((hs3 (41 + 2 * j) (by omega)).trans hShM_7.1) rfl (by decide) uX3 uf_X6_256 rfl rfl ?_
                    refine w_iload_n (n := 136) O dX6_read_135 rfl rfl rfl ?_
                    refine w_iconst (n := 137) O dX6_read_136 (v := (nI 2)) (by decide) rfl ?_
                    refine w_iload (n := 139) O dX6_read_137 rfl rfl ?_
                    refine w_imulN (n := 140) O dX6_read_139 rfl ?_
                    refine w_iaddN (n := 141) O dX6_read_140 rfl ?_
                    refine w_iconst (n := 142) O dX6_read_141 (v := (nI 1)) (by decide) rfl ?_
                    refine w_iaddN (n := 143) O dX6_read_142 rfl ?_
                    refine w_ialdA (n := 144) O dX6_read_143 hW.2.1 (by omega) ((hs3 (41 + 2 * j + 1) (by omega)).trans hShM_7.2) (by omega) (by decide) rfl ?_
                    refine w_top (nI v8) hcv ?_
                    refine w_cV (n := 147) (ro := none) (R := fun mM' => isT G mM' (1) (upN (rdT T (sc j) (nI fn).toNatClampNeg i2).1 (g8 * 6 + 1) v8, (rdT T (sc j) (nI fn).toNatClampNeg i2).2) ∧ sm m3 mM' (1) (1 + 3)) (st := []) (st1 := []) (As := [.int (nI (g8)), .int (nI 1), .int (nI (v8))]) (b := 1) O dX6_read_144 ul_X6_162 um_X5_setTrait (f_X5_setTrait (T := (rdT T (sc j) (nI fn).toNatClampNeg i2)) hW ⟨hT3.1, hT3.2.1, hT3.2.2.1, hT3.2.2.2⟩ (by omega) (by omega) (fun M' h1 h2 => ⟨rfl, h1, h2⟩)) rfl (by omega) hT3.1 rfl rfl rfl rfl (by omega) (Nat.le_of_ble_eq_true rfl) rfl (fun mhM_10 hM_10 => ?_)
                    obtain ⟨hThM_10, hshM_10⟩ := hM_10
                    refine w_iincN (n := 150) (lv' := [(7, .int (nI (i2 + 1))), (0, .ref (gb_ad G 0)), (1, .int (nI (j))), (2, .int (nI (q))), (3, .int (nI (fn))), (4, .int (nI (t))), (5, .ref (gb_ad G (41 + 2 * j))), (6, .int (nI (wh)))]) O dX6_read_147 rfl (by decide) rfl rfl ?_
                    refine w_goto (tgt := 106) O dX6_read_150 (by decide) ?_
                    refine w_lv (lv2 := [(0, .ref (gb_ad G 0)), (1, .int (nI (j))), (2, .int (nI (q))), (3, .int (nI (fn))), (4, .int (nI (t))), (5, .ref (gb_ad G (41 + 2 * j))), (6, .int (nI (wh))), (7, .int (nI (i2 + 1)))]) [1, 2, 3, 4, 5, 6, 7, 0] rfl ?_
                    exact ih_RB _ (by omega) (i2 + 1) _ rfl (by omega) (by unfold rdT; rw [show sc j ((nI fn).toNatClampNeg + 2 * i2) = nI g8 by rw [clf]; exact hcg, show sc j ((nI fn).toNatClampNeg + 2 * i2 + 1) = nI v8 by rw [clf]; exact hcv, nI_clamp (show g8 < 2 ^ 31 by omega), nI_clamp (show v8 < 2 ^ 31 by omega)]; exact ⟨hThM_10.1, hThM_10.2.1, hThM_10.2.2.1, hThM_10.2.2.2⟩) (hs3.tr (hshM_10.mono (by omega) (by omega)))
              refine w_lv (lv2 := [(0, .ref (gb_ad G 0)), (1, .int (nI (j))), (2, .int (nI (q))), (3, .int (f)), (4, .int (nI (t))), (5, .ref (gb_ad G (41 + 2 * j))), (6, .int (nI (wh))), (7, .int (nI 0))]) [1, 2, 3, 4, 5, 6, 7, 0] rfl ?_
              exact RB _ 0 _ rfl (Nat.zero_le _) ⟨((hshM_7 (1) (by omega)).trans hT.1), ((hshM_7 (2) (by omega)).trans hT.2.1), ((hshM_7 (3) (by omega)).trans hT.2.2.1), ((hshM_7 (4) (by omega)).trans hT.2.2.2)⟩ sm.rf
            · skip
              obtain ⟨hf1, hf2⟩ := rd_f hsz40 (show 0 < wh by omega) (by omega) hz0
              obtain ⟨fn, efn⟩ : ∃ fn, fn = f.toNatClampNeg := ⟨_, rfl⟩
              rw [← efn] at hf1 hf2
              subst hf1
              have clf : (nI fn).toNatClampNeg = fn := efn.symm
              have hf3 := hf2 i (by omega)
              refine w_aload_n (n := 59) O dX6_read_58 rfl rfl rfl ?_
              refine w_aload (n := 61) O dX6_read_59 rfl rfl ?_
              refine w_getf (n := 64) O 0 dX6_read_61 (by omega) hShM_7.1 rfl (by decide) uX3 uf_X6_256 rfl rfl ?_
              refine w_iload_n (n := 65) O dX6_read_64 rfl rfl rfl ?_
              refine w_iconst (n := 66) O dX6_read_65 (v := (nI 2)) (by decide) rfl ?_
              refine w_iload (n := 68) O dX6_read_66 rfl rfl ?_
              refine w_imulN (n := 69) O dX6_read_68 rfl ?_
              refine w_iaddN (n := 70) O dX6_read_69 rfl ?_
              refine w_ialdA (n := 71) O dX6_read_70 hW.2.1 (by omega) hShM_7.2 (by omega) (by decide) rfl ?_
              refine w_aload (n := 73) O dX6_read_71 rfl rfl ?_
              refine w_getf (n := 76) O 0 dX6_read_73 (by omega) hShM_7.1 rfl (by decide) uX3 uf_X6_256 rfl rfl ?_
              refine w_iload_n (n := 77) O dX6_read_76 rfl rfl rfl ?_
              refine w_iconst (n := 78) O dX6_read_77 (v := (nI 2)) (by decide) rfl ?_
              refine w_iload (n := 80) O dX6_read_78 rfl rfl ?_
              refine w_imulN (n := 81) O dX6_read_80 rfl ?_
              refine w_iaddN (n := 82) O dX6_read_81 rfl ?_
              refine w_iconst (n := 83) O dX6_read_82 (v := (nI 1)) (by decide) rfl ?_
              refine w_iaddN (n := 84) O dX6_read_83 rfl ?_
              refine w_ialdA (n := 85) O dX6_read_84 hW.2.1 (by omega) hShM_7.2 (by omega) (by decide) rfl ?_
              refine w_cV (n := 88) (ro := some (.int (bI (isGv ((sc j) ((fn + (2 * i)))) T.2.2.2.1 && wIn ((sc j) (((fn + (2 * i)) + 1))) (nI 0) (nI 9))))) (R := fun mM' => mhM_7 = mM') (st := []) (st1 := [.int (bI (isGv ((sc j) ((fn + (2 * i)))) T.2.2.2.1 && wIn ((sc j) (((fn + (2 * i)) + 1))) (nI 0) (nI 9)))]) (As := [.int ((sc j) ((fn + (2 * i)))), .int ((sc j) (((fn + (2 * i)) + 1)))]) (b := 0) O dX6_read_85 ul_X6_259 um_X6_isConfession (f_X6_isConfession (T := T) hW ((hshM_7 (0) (by omega)).trans hB) ⟨((hshM_7 (1) (by omega)).trans hT.1), ((hshM_7 (2) (by omega)).trans hT.2.1), ((hshM_7 (3) (by omega)).trans hT.2.2.1), ((hshM_7 (4) (by omega)).trans hT.2.2.2)⟩ ok ⟨rfl, rfl⟩) rfl (by omega) ((hshM_7 (0) (by omega)).trans hB) rfl rfl rfl rfl (by decide) (Nat.le_of_ble_eq_true rfl) rfl (fun mhM_11 hM_11 => ?_)
              subst hM_11
              refine w_if_neB (n := 91) (tgt := 97) O dX6_read_88 (by decide) rfl (fun c_12 => ?_) (fun c_12 => ?_)
              · skip
                refine w_iincN (n := 100) (lv' := [(7, .int (nI (i + 1))), (0, .ref (gb_ad G 0)), (1, .int (nI (j))), (2, .int (nI (q))), (3, .int (nI (fn))), (4, .int (nI (t))), (5, .ref (gb_ad G (41 + 2 * j))), (6, .int (nI (wh)))]) O dX6_read_97 rfl (by decide) rfl rfl ?_
                refine w_goto (tgt := 51) O dX6_read_100 (by decide) ?_
                refine w_lv (lv2 := [(0, .ref (gb_ad G 0)), (1, .int (nI (j))), (2, .int (nI (q))), (3, .int (nI (fn))), (4, .int (nI (t))), (5, .ref (gb_ad G (41 + 2 * j))), (6, .int (nI (wh))), (7, .int (nI (i + 1)))]) [1, 2, 3, 4, 5, 6, 7, 0] rfl ?_
                exact ih_RA _ (by omega) (i + 1) rfl (by omega) (fun k hk => by rcases Nat.lt_or_ge k i with z | z; exact hcf k z; rw [show k = i by omega]; unfold conf; rw [clf]; exact c_12)
              · skip
                refine w_bipush (n := 93) O dX6_read_91 (v := (-20)) (by decide) rfl ?_
                refine w_iload (n := 95) O dX6_read_93 rfl rfl ?_
                refine w_isub (n := 96) O dX6_read_95 rfl ?_
                refine w_iret O dX6_read_96 ?_
                have ew : rdWh sh (nI j) (nI q) (nI fn) (nI t) = wh := by unfold rdWh; rw [cl_j, cl_q, cl_t]; exact ewg
                have eb : rdBd T sh sc (nI j) (nI q) (nI fn) (nI t) = i := by unfold rdBd rdB; rw [ew, cl_j]; exact fst_at (by omega) (fun k hk => if_pos (hcf k hk)) (by rw [if_neg]; decide; unfold conf; rw [clf, c_12]; decide)
                have hpfn : (if wh < t then pairF (szI (sh j)) (laI (sh j)) q (nI fn) (wh) else 0) ≤ 4 := by split; (have := pfl_le (szI (sh j)) (laI (sh j)) q; unfold pairF; exact Nat.le_trans (this _) (by decide)); exact Nat.zero_le _
                have hHn : cH G _ (upS sh j (sh j)) (upC sc j (sc j)) := cH_set (M' := mhM_7) hH (by omega) ⟨hShM_7.1, hShM_7.2⟩ hpfn (fun q h1 h2 h3 => ((hshM_7 q (by omega)).trans rfl))
                rw [show upS sh j (sh j) = sh from funext (fun q => by unfold upS; split; (rename_i e; rw [e]); rfl), show upC sc j (sc j) = sc from funext (fun q => by unfold upC; split; (rename_i e; rw [e]); rfl)] at hHn
                have e0 : a_read T sh sc (nI j) (nI q) (nI fn) (nI t) = (((-20) - (nI (i)))) := by unfold a_read; rw [if_pos (by unfold rdOk; rw [hr_j, hr_q, hr_t]; rfl), eb, ew, if_pos (by omega)]
                have e1 : s_readT T sh sc (nI j) (nI q) (nI fn) (nI t) = T := by unfold s_readT; rw [eb, ew, if_neg (fun w => w.2 (by omega))]
                have e2 : s_readN T sh sc tn (nI j) (nI q) (nI fn) (nI t) = tn := by unfold s_readN; rw [eb, ew, if_neg (fun w => w.2 (by omega))]
                rw [e0, e1, e2] at hQ
                exact hQ _ ⟨((hshM_7 (0) (by omega)).trans hB), ⟨((hshM_7 (1) (by omega)).trans hT.1), ((hshM_7 (2) (by omega)).trans hT.2.1), ((hshM_7 (3) (by omega)).trans hT.2.2.1), ((hshM_7 (4) (by omega)).trans hT.2.2.2)⟩, hok, (hU.kp (kp_sm hshM_7 (by omega))), (hMx.kp (kp_sm hshM_7 (by omega))), (hP.kp (kp_sm hshM_7 (by omega))), (hS.kp (kp_sm hshM_7 (by omega))), (hG.kp (kp_sm hshM_7 (by omega))), (hI.kp (kp_sm hshM_7 (by omega))), ((hshM_7 (39) (by omega)).trans hK), hHn⟩ (sm.rf.tr (hshM_7.mono (by omega) (by omega)))
        refine w_lv (lv2 := [(0, .ref (gb_ad G 0)), (1, .int (nI (j))), (2, .int (nI (q))), (3, .int (f)), (4, .int (nI (t))), (5, .ref (gb_ad G (41 + 2 * j))), (6, .int (nI (wh))), (7, .int (nI 0))]) [3, 4, 5, 6, 7, 2, 1, 0] rfl ?_
        exact RA _ 0 rfl (Nat.zero_le _) (fun k hk => absurd hk (Nat.not_lt_zero k))
      · skip
        refine w_iconst (n := 28) O dX6_read_27 (v := (-1)) (by decide) rfl ?_
        refine w_iret O dX6_read_28 ?_
        have e0 : a_read T sh sc (nI j) (nI q) f n = -1 := by unfold a_read; rw [if_neg (by rw [show rdOk (nI j) (nI q) n = false from by simp [rdOk, c_6]]; decide)]
        have e1 : s_readT T sh sc (nI j) (nI q) f n = T := by unfold s_readT; rw [if_neg (fun w => by rw [show rdOk (nI j) (nI q) n = false from by simp [rdOk, c_6]] at w; exact absurd w.1 (by decide))]
        have e2 : s_readN T sh sc tn (nI j) (nI q) f n = tn := by unfold s_readN; rw [if_neg (fun w => by rw [show rdOk (nI j) (nI q) n = false from by simp [rdOk, c_6]] at w; exact absurd w.1 (by decide))]
        rw [e0, e1, e2] at hQ
        try dsimp only at hQ
        exact hQ _ ⟨hB, ⟨hT.1, hT.2.1, hT.2.2.1, hT.2.2.2⟩, hok, hU, hMx, hP, hS, hG, hI, hK, hH⟩ sm.rf
