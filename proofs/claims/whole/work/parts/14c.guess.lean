set_option maxRecDepth 100000 in
set_option maxHeartbeats 4000000 in
theorem f_guess_0 {G : gb_G} (hW : gW G) : gfP G 0 := by
  intro Q mM st sf sn ft ln lo hi le gi mo gu ts am tl T g c hG ok hge hcg hst hsn hgu hmid htab hfold hQ
  have hn4 := ok.1
  have eg : g = T.2.2.2.1 := by omega
  have hc4 : c < 10000 := Nat.lt_of_lt_of_le hcg (Nat.pow_le_pow_right (by decide) (show g ≤ 4 by omega))
  have hgd : ∀ o, o < T.2.2.2.1 → gu o = dig T.2.2.2.1 c o := fun o ho => by rw [← eg] at ho ⊢; exact hgu o ho
  have hmd : gMid T (dig T.2.2.2.1 c) T.2.2.2.1 ts am := by rw [← eg]; exact hmid
  have hfd : gFold T (fitB T st sf sn) tl c ft ln lo hi le := by simpa using hfold
  have hN := hW.2.2.1
  refine Fn.of hW.1 [(0, .ref (gb_ad G 19)), (1, .int (nI (g))), (2, .int (nI (c)))] (by decide) (Nat.le_of_ble_eq_true rfl) rfl ?_
  intro X O
  refine w_iload_n (n := 1) O dX0_guessFrom_0 rfl rfl rfl ?_
  refine w_aload_n (n := 2) O dX0_guessFrom_1 rfl rfl rfl ?_
  refine w_getf (n := 5) O 13 dX0_guessFrom_2 (by omega) hG.1 rfl (by decide) uX0 uf_X0_52 rfl rfl ?_
  refine w_icmp_geN (n := 8) (tgt := 13) O dX0_guessFrom_5 (by omega) (by omega) (by decide) rfl (fun c_1 => ?_) (fun c_1 => by omega)
  refine w_aload_n (n := 14) O dX0_guessFrom_13 rfl rfl rfl ?_
  refine w_iload_n (n := 15) O dX0_guessFrom_14 rfl rfl rfl ?_
  refine w_cV (n := 18) (ro := none) (R := fun mM' => ∃ ft' ln' lo' hi' le', isG G mM' st sf sn (ft') (ln') (lo') (hi') (le') gi mo gu ts am T.2.2.2.1 tl ∧ gFold T (fitB T st sf sn) tl (c + 1) ft' ln' lo' hi' le' ∧ sm mM mM' 19 29) (st := []) (st1 := []) (As := [.int (nI (c))]) (b := 19) O dX0_guessFrom_15 ul_X0_103 um_X0_judge (f_X0_judge (T := T) hW ⟨hG.1, hG.2.1, hG.2.2.1, hG.2.2.2.1, hG.2.2.2.2.1, hG.2.2.2.2.2.1, hG.2.2.2.2.2.2.1, hG.2.2.2.2.2.2.2.1, hG.2.2.2.2.2.2.2.2.1, hG.2.2.2.2.2.2.2.2.2.1, hG.2.2.2.2.2.2.2.2.2.2⟩ ok rfl (c := c) (by omega) hst hsn hgd hmd hfd (fun M' a b c d e h1 h2 h3 => ⟨rfl, a, b, c, d, e, h1, h2, h3⟩)) rfl (by omega) hG.1 rfl rfl rfl rfl (by omega) (Nat.le_of_ble_eq_true rfl) rfl (fun mhM_2 hM_2 => ?_)
  obtain ⟨fthM_2, lnhM_2, lohM_2, hihM_2, lehM_2, hGhM_2, hfhM_2, hshM_2⟩ := hM_2
  refine w_vret O dX0_guessFrom_18 ?_
  exact hQ _ _ _ _ _ _ _ ⟨hGhM_2.1, hGhM_2.2.1, hGhM_2.2.2.1, hGhM_2.2.2.2.1, hGhM_2.2.2.2.2.1, hGhM_2.2.2.2.2.2.1, hGhM_2.2.2.2.2.2.2.1, hGhM_2.2.2.2.2.2.2.2.1, hGhM_2.2.2.2.2.2.2.2.2.1, hGhM_2.2.2.2.2.2.2.2.2.2.1, hGhM_2.2.2.2.2.2.2.2.2.2.2⟩ (fun _ _ => rfl) (by simpa using hfhM_2) (sm.rf.tr (hshM_2.mono (by omega) (by omega)))
set_option maxRecDepth 100000 in
set_option maxHeartbeats 4000000 in
theorem f_guess_s {G : gb_G} (hW : gW G) {e : Nat} (ih : gfP G e) : gfP G (e + 1) := by
  intro Q mM st sf sn ft ln lo hi le gi mo gu ts am tl T g c hG ok hge hcg hst hsn hgu hmid htab hfold hQ
  have hn4 := ok.1
  have hge2 : g < T.2.2.2.1 := by omega
  have hN := hW.2.2.1
  refine Fn.of hW.1 [(0, .ref (gb_ad G 19)), (1, .int (nI (g))), (2, .int (nI (c)))] (by decide) (Nat.le_of_ble_eq_true rfl) rfl ?_
  intro X O
  refine w_iload_n (n := 1) O dX0_guessFrom_0 rfl rfl rfl ?_
  refine w_aload_n (n := 2) O dX0_guessFrom_1 rfl rfl rfl ?_
  refine w_getf (n := 5) O 13 dX0_guessFrom_2 (by omega) hG.1 rfl (by decide) uX0 uf_X0_52 rfl rfl ?_
  refine w_icmp_geN (n := 8) (tgt := 13) O dX0_guessFrom_5 (by omega) (by omega) (by decide) rfl (fun c_1 => by omega) (fun c_1 => ?_)
  refine w_iload_n (n := 9) O dX0_guessFrom_8 rfl rfl rfl ?_
  refine w_iconst (n := 10) O dX0_guessFrom_9 (v := (nI 4)) (by decide) rfl ?_
  refine w_icmp_ltN (n := 13) (tgt := 19) O dX0_guessFrom_10 (by omega) (by omega) (by decide) rfl (fun c_2 => ?_) (fun c_2 => by omega)
  refine w_iconst (n := 20) O dX0_guessFrom_19 (v := (nI 0)) (by decide) rfl ?_
  refine w_istore_n (n := 21) (lv' := [(3, .int (nI 0)), (0, .ref (gb_ad G 19)), (1, .int (nI (g))), (2, .int (nI (c)))]) O dX0_guessFrom_20 rfl (by decide) rfl rfl ?_
  have LS : ∀ (k : Nat) (v : Nat) (m1 : gb_M) (ft1 : Nat) (ln1 : Option Nat) (lo1 hi1 le1 gu1 : Nat → Nat), 10 - v = k → v ≤ 10 → isG G m1 st sf sn ft1 ln1 lo1 hi1 le1 gi mo gu1 ts am T.2.2.2.1 tl → (∀ o, o < g → gu1 o = gu o) → gFold T (fitB T st sf sn) tl ((c * 10 + v) * 10 ^ e) ft1 ln1 lo1 hi1 le1 → sm mM m1 19 29 → Wm G X 5 Q 21 [(0, .ref (gb_ad G 19)), (1, .int (nI (g))), (2, .int (nI (c))), (3, .int (nI (v)))] [] m1 := by
    intro k
    induction k using Nat.strongRecOn with
    | ind k ih_LS =>
      intro v m1 ft1 ln1 lo1 hi1 le1 gu1 hk hv10 hG1 hgp hfo hs1
      refine w_iload_n (n := 22) O dX0_guessFrom_21 rfl rfl rfl ?_
      refine w_bipush (n := 24) O dX0_guessFrom_22 (v := (nI 10)) (by decide) rfl ?_
      refine w_icmp_geN (n := 27) (tgt := 81) O dX0_guessFrom_24 (by omega) (by omega) (by decide) rfl (fun c_3 => ?_) (fun c_3 => ?_)
      · skip
        refine w_vret O dX0_guessFrom_81 ?_
        have e10 : v = 10 := by omega
        subst e10
        rw [show (c * 10 + 10) * 10 ^ e = (c + 1) * 10 ^ (e + 1) by rw [Nat.pow_succ, show c * 10 + 10 = (c + 1) * 10 by omega, Nat.mul_assoc, Nat.mul_comm 10]] at hfo
        exact hQ _ _ _ _ _ _ _ ⟨hG1.1, hG1.2.1, hG1.2.2.1, hG1.2.2.2.1, hG1.2.2.2.2.1, hG1.2.2.2.2.2.1, hG1.2.2.2.2.2.2.1, hG1.2.2.2.2.2.2.2.1, hG1.2.2.2.2.2.2.2.2.1, hG1.2.2.2.2.2.2.2.2.2.1, hG1.2.2.2.2.2.2.2.2.2.2⟩ hgp hfo hs1
      · skip
        have hmo3 : mo g < 4 := by rw [htab.1 g (by omega)]; have := (ok.2.1 g (by omega)).2.2.1; omega
        have hcb : c * 10 < 10000 := by have := Nat.pow_le_pow_right (show 0 < 10 by decide) (show g + 1 ≤ 4 by omega); rw [Nat.pow_succ] at this; omega
        refine w_aload_n (n := 28) O dX0_guessFrom_27 rfl rfl rfl ?_
        refine w_getf (n := 31) O 8 dX0_guessFrom_28 (by omega) hG1.1 rfl (by decide) uX0 uf_X0_37 rfl rfl ?_
        refine w_iload_n (n := 32) O dX0_guessFrom_31 rfl rfl rfl ?_
        refine w_bipush (n := 34) O dX0_guessFrom_32 (v := (nI 10)) (by decide) rfl ?_
        refine w_imulN (n := 35) O dX0_guessFrom_34 rfl ?_
        refine w_iload_n (n := 36) O dX0_guessFrom_35 rfl rfl rfl ?_
        refine w_iaddN (n := 37) O dX0_guessFrom_36 rfl ?_
        refine w_ialdN (n := 38) O dX0_guessFrom_37 hW.2.1 (by omega) hG1.2.2.2.2.2.2.1 (by omega) (by decide) rfl ?_
        refine w_istore (n := 40) (lv' := [(4, .int (nI (gi (((g * 10) + v))))), (0, .ref (gb_ad G 19)), (1, .int (nI (g))), (2, .int (nI (c))), (3, .int (nI (v)))]) O dX0_guessFrom_38 (by decide) rfl rfl ?_
        refine w_aload_n (n := 41) O dX0_guessFrom_40 rfl rfl rfl ?_
        refine w_getf (n := 44) O 10 dX0_guessFrom_41 (by omega) hG1.1 rfl (by decide) uX0 uf_X0_43 rfl rfl ?_
        refine w_iload_n (n := 45) O dX0_guessFrom_44 rfl rfl rfl ?_
        refine w_iload_n (n := 46) O dX0_guessFrom_45 rfl rfl rfl ?_
        refine w_iastN (n := 47) O dX0_guessFrom_46 hW.2.1 (by omega) hG1.2.2.2.2.2.2.2.2.1 (by omega) (by decide) rfl ?_
        refine w_aload_n (n := 48) O dX0_guessFrom_47 rfl rfl rfl ?_
        refine w_iload_n (n := 49) O dX0_guessFrom_48 rfl rfl rfl ?_
        refine w_iload (n := 51) O dX0_guessFrom_49 rfl rfl ?_
        refine w_cV (n := 54) (ro := none) (R := fun mM' => isG G mM' st sf sn ft1 ln1 lo1 hi1 le1 gi mo (upN (gu1) (g) (v)) (fun r => ts r + (nI (gi (((g * 10) + v)))) * nI (1 + (r + g) % 3)) (upd am (mo g) (am (mo g) + (nI (gi (((g * 10) + v)))))) T.2.2.2.1 tl ∧ sm (va_up m1 (27) (IN G 4 (upN (gu1) (g) (v)))) mM' 19 29) (st := []) (st1 := []) (As := [.int (nI (g)), .int (nI (gi (((g * 10) + v))))]) (b := 19) O dX0_guessFrom_51 ul_X0_107 um_X0_giveMore (f_X0_giveMore hW ⟨((va_up_ne _ _ (by decide)).trans hG1.1), ((va_up_ne _ _ (by decide)).trans hG1.2.1), ((va_up_ne _ _ (by decide)).trans hG1.2.2.1), ((va_up_ne _ _ (by decide)).trans hG1.2.2.2.1), ((va_up_ne _ _ (by decide)).trans hG1.2.2.2.2.1), ((va_up_ne _ _ (by decide)).trans hG1.2.2.2.2.2.1), ((va_up_ne _ _ (by decide)).trans hG1.2.2.2.2.2.2.1), ((va_up_ne _ _ (by decide)).trans hG1.2.2.2.2.2.2.2.1), (va_up_self _ _ _), ((va_up_ne _ _ (by decide)).trans hG1.2.2.2.2.2.2.2.2.2.1), ((va_up_ne _ _ (by decide)).trans hG1.2.2.2.2.2.2.2.2.2.2)⟩ (by omega) (by omega) (fun M' h1 h2 => ⟨rfl, h1, h2⟩)) rfl (by omega) ((va_up_ne _ _ (by decide)).trans hG1.1) rfl rfl rfl rfl (by omega) (Nat.le_of_ble_eq_true rfl) rfl (fun mhM_4 hM_4 => ?_)
        obtain ⟨hGhM_4, hshM_4⟩ := hM_4
        have hv9 : v < 10 := by omega
        have hc1 : c * 10 + v < 10 ^ (g + 1) := by rw [Nat.pow_succ]; omega
        have hgu1 : ∀ o, o < g + 1 → upN gu1 g v o = pd (g + 1) (c * 10 + v) o := fun o ho => by rcases Nat.lt_or_ge o g with q | q; (rw [upN_ne _ _ (by omega), pd_old q hv9]; rw [hgp o q]; exact hgu o q); (rw [show o = g by omega, upN_self, pd_last hv9])
        have hmid1 : gMid T (pd (g + 1) (c * 10 + v)) (g + 1) (fun r => ts r + nI (gi (g * 10 + v)) * nI (1 + (r + g) % 3)) (upd am (mo g) (am (mo g) + nI (gi (g * 10 + v)))) := by rw [htab.2 g v (by omega) hv9, htab.1 g (by omega)]; exact gMid_step hv9 hmid
        have hfo1 := hfo
        refine w_aload_n (n := 55) O dX0_guessFrom_54 rfl rfl rfl ?_
        refine w_iload_n (n := 56) O dX0_guessFrom_55 rfl rfl rfl ?_
        refine w_iconst (n := 57) O dX0_guessFrom_56 (v := (nI 1)) (by decide) rfl ?_
        refine w_iaddN (n := 58) O dX0_guessFrom_57 rfl ?_
        refine w_iload_n (n := 59) O dX0_guessFrom_58 rfl rfl rfl ?_
        refine w_bipush (n := 61) O dX0_guessFrom_59 (v := (nI 10)) (by decide) rfl ?_
        refine w_imulN (n := 62) O dX0_guessFrom_61 rfl ?_
        refine w_iload_n (n := 63) O dX0_guessFrom_62 rfl rfl rfl ?_
        refine w_iaddN (n := 64) O dX0_guessFrom_63 rfl ?_
        refine w_cV (n := 67) (ro := none) (R := fun mM' => ∃ ft' ln' lo' hi' le' gu', isG G mM' st sf sn (ft') (ln') (lo') (hi') (le') gi mo (gu') (fun r => ts r + (nI (gi (((g * 10) + v)))) * nI (1 + (r + g) % 3)) (upd am (mo g) (am (mo g) + (nI (gi (((g * 10) + v)))))) T.2.2.2.1 tl ∧ (∀ o, o < g + 1 → gu' o = upN gu1 g v o) ∧ gFold T (fitB T st sf sn) tl ((c * 10 + v + 1) * 10 ^ e) ft' ln' lo' hi' le' ∧ sm mhM_4 mM' 19 29) (st := []) (st1 := []) (As := [.int (nI ((g + 1))), .int (nI (((c * 10) + v)))]) (b := 19) O dX0_guessFrom_64 ul_X0_69 um_X0_guessFrom (ih _ _ _ _ _ _ _ _ _ _ _ _ _ _ _ _ T (g + 1) (c * 10 + v) ⟨hGhM_4.1, hGhM_4.2.1, hGhM_4.2.2.1, hGhM_4.2.2.2.1, hGhM_4.2.2.2.2.1, hGhM_4.2.2.2.2.2.1, hGhM_4.2.2.2.2.2.2.1, hGhM_4.2.2.2.2.2.2.2.1, hGhM_4.2.2.2.2.2.2.2.2.1, hGhM_4.2.2.2.2.2.2.2.2.2.1, hGhM_4.2.2.2.2.2.2.2.2.2.2⟩ ok (by omega) hc1 hst hsn hgu1 hmid1 htab hfo1 (fun M' a b c d e f h1 h2 h3 h4 => ⟨rfl, a, b, c, d, e, f, h1, h2, h3, h4⟩)) rfl (by omega) hGhM_4.1 rfl rfl rfl rfl (by omega) (Nat.le_of_ble_eq_true rfl) rfl (fun mhM_5 hM_5 => ?_)
        obtain ⟨fthM_5, lnhM_5, lohM_5, hihM_5, lehM_5, guhM_5, hGhM_5, hqhM_5, hfhM_5, hshM_5⟩ := hM_5
        refine w_aload_n (n := 68) O dX0_guessFrom_67 rfl rfl rfl ?_
        refine w_iload_n (n := 69) O dX0_guessFrom_68 rfl rfl rfl ?_
        refine w_iload (n := 71) O dX0_guessFrom_69 rfl rfl ?_
        refine w_ineg (n := 72) O dX0_guessFrom_71 rfl ?_
        refine w_cV (n := 75) (ro := none) (R := fun mM' => isG G mM' st sf sn fthM_5 lnhM_5 lohM_5 hihM_5 lehM_5 gi mo guhM_5 (fun r => (fun r => ts r + (nI (gi (((g * 10) + v)))) * nI (1 + (r + g) % 3)) r + ((-(nI (gi (((g * 10) + v)))))) * nI (1 + (r + g) % 3)) (upd (upd am (mo g) (am (mo g) + (nI (gi (((g * 10) + v)))))) (mo g) ((upd am (mo g) (am (mo g) + (nI (gi (((g * 10) + v)))))) (mo g) + ((-(nI (gi (((g * 10) + v)))))))) T.2.2.2.1 tl ∧ sm mhM_5 mM' 19 29) (st := []) (st1 := []) (As := [.int (nI (g)), .int ((-(nI (gi (((g * 10) + v))))))]) (b := 19) O dX0_guessFrom_72 ul_X0_107 um_X0_giveMore (f_X0_giveMore hW ⟨hGhM_5.1, hGhM_5.2.1, hGhM_5.2.2.1, hGhM_5.2.2.2.1, hGhM_5.2.2.2.2.1, hGhM_5.2.2.2.2.2.1, hGhM_5.2.2.2.2.2.2.1, hGhM_5.2.2.2.2.2.2.2.1, hGhM_5.2.2.2.2.2.2.2.2.1, hGhM_5.2.2.2.2.2.2.2.2.2.1, hGhM_5.2.2.2.2.2.2.2.2.2.2⟩ (by omega) (by omega) (fun M' h1 h2 => ⟨rfl, h1, h2⟩)) rfl (by omega) hGhM_5.1 rfl rfl rfl rfl (by omega) (Nat.le_of_ble_eq_true rfl) rfl (fun mhM_6 hM_6 => ?_)
        obtain ⟨hGhM_6, hshM_6⟩ := hM_6
        refine w_iincN (n := 78) (lv' := [(3, .int (nI (v + 1))), (4, .int (nI (gi (((g * 10) + v))))), (0, .ref (gb_ad G 19)), (1, .int (nI (g))), (2, .int (nI (c)))]) O dX0_guessFrom_75 rfl (by decide) rfl rfl ?_
        refine w_goto (tgt := 21) O dX0_guessFrom_78 (by decide) ?_
        refine w_lv (lv2 := [(0, .ref (gb_ad G 19)), (1, .int (nI (g))), (2, .int (nI (c))), (3, .int (nI (v + 1)))]) [2, 3, 4, 0] rfl ?_
        exact ih_LS _ (by omega) (v + 1) _ _ _ _ _ _ guhM_5 rfl (by omega) (isG_ts (back_ts ts (nI (gi (g * 10 + v))) (fun r => nI (1 + (r + g) % 3))) (back_am am (mo g) (nI (gi (g * 10 + v)))) ⟨hGhM_6.1, hGhM_6.2.1, hGhM_6.2.2.1, hGhM_6.2.2.2.1, hGhM_6.2.2.2.2.1, hGhM_6.2.2.2.2.2.1, hGhM_6.2.2.2.2.2.2.1, hGhM_6.2.2.2.2.2.2.2.1, hGhM_6.2.2.2.2.2.2.2.2.1, hGhM_6.2.2.2.2.2.2.2.2.2.1, hGhM_6.2.2.2.2.2.2.2.2.2.2⟩) (fun o ho => by rw [hqhM_5 o (by omega), upN_ne _ _ (by omega)]; exact hgp o ho) (by rw [← Nat.add_assoc]; exact hfhM_5) ((((hs1.up (by omega) (by omega)).tr (hshM_4.mono (by omega) (by omega))).tr (hshM_5.mono (by omega) (by omega))).tr (hshM_6.mono (by omega) (by omega)))
  refine w_lv (lv2 := [(0, .ref (gb_ad G 19)), (1, .int (nI (g))), (2, .int (nI (c))), (3, .int (nI 0))]) [1, 2, 3, 0] rfl ?_
  exact LS _ 0 mM ft ln lo hi le gu rfl (by omega) hG (fun _ _ => rfl) (by rw [show (c * 10 + 0) * 10 ^ e = c * 10 ^ (e + 1) by rw [Nat.pow_succ, Nat.add_zero, Nat.mul_assoc, Nat.mul_comm 10]]; exact hfold) sm.rf
theorem f_X0_guessFrom {G : gb_G} (hW : gW G) : ∀ e : Nat, gfP G e
  | 0 => f_guess_0 hW
  | e + 1 => f_guess_s hW (f_X0_guessFrom hW e)
