set_option maxRecDepth 100000 in
set_option maxHeartbeats 4000000 in
theorem f_X0_judge {G : gb_G} (hW : gW G) {Q : Option Value → gb_M → Prop} {mM : gb_M} {st sf : Nat → Nat} {sn ft : Nat} {ln : Option Nat} {lo hi le gi mo gu : Nat → Nat} {ts am : Nat → Int32} {gv : Nat} {tl : Bool} (hG : isG G mM st sf sn ft ln lo hi le gi mo gu ts am gv tl) {T : Tw} (ok : okT T) (egv : gv = T.2.2.2.1) {c : Nat} (hc4 : c < 10000) (hst : ∀ k, k < sn → st k ≤ 8 ∧ sf k ≤ 9) (hsn : sn ≤ 6) (hgu : ∀ g, g < T.2.2.2.1 → gu g = dig T.2.2.2.1 c g) (hmid : gMid T (dig T.2.2.2.1 c) T.2.2.2.1 ts am) (hfold : gFold T (fitB T st sf sn) tl c ft ln lo hi le)  (hQ : ∀ M' ft' ln' lo' hi' le', isG G M' st sf sn ft' ln' lo' hi' le' gi mo gu ts am T.2.2.2.1 tl → gFold T (fitB T st sf sn) tl (c + 1) ft' ln' lo' hi' le' → sm mM M' 19 29 → Q none M') : Fn G 2 yX0_judge cX0_judge 4 none [.ref (gb_ad G 19), .int (nI (c))] mM Q := by
  subst egv
  have hlh : ∀ g, g < T.2.2.2.1 → lo g ≤ 9 ∧ hi g ≤ 9 := fun g hg => by rw [(hfold.2.2.1 g hg).1, (hfold.2.2.1 g hg).2]; exact ⟨sLow_le _, sHigh_le (fun c => dig_le _ _ _) _⟩
  have hft : ft ≤ c := by rw [hfold.1]; exact sCnt_le _ _
  have hleb : ∀ k, k < 90 → le k ≤ c := fun k hk => by rw [hfold.2.2.2 k hk]; split; exact sCnt_le _ _; exact Nat.zero_le _
  have hN := hW.2.2.1
  refine Fn.of hW.1 [(0, .ref (gb_ad G 19)), (1, .int (nI (c)))] (by decide) (Nat.le_of_ble_eq_true rfl) rfl ?_
  intro X O
  have hn4 := ok.1
  have hdl : ∀ o, dig T.2.2.2.1 c o ≤ 9 := fun o => dig_le _ _ _
  refine w_iconst (n := 1) O dX0_judge_0 (v := (nI 0)) (by decide) rfl ?_
  refine w_istore_n (n := 2) (lv' := [(2, .int (nI 0)), (0, .ref (gb_ad G 19)), (1, .int (nI (c)))]) O dX0_judge_1 rfl (by decide) rfl rfl ?_
  refine w_iconst (n := 3) O dX0_judge_2 (v := (nI 0)) (by decide) rfl ?_
  refine w_istore_n (n := 4) (lv' := [(3, .int (nI 0)), (2, .int (nI 0)), (0, .ref (gb_ad G 19)), (1, .int (nI (c)))]) O dX0_judge_3 rfl (by decide) rfl rfl ?_
  have JA : ∀ (k : Nat) (i w : Nat), 3 - i = k → i ≤ 3 → w = sSum (fun m => gMet T (dig T.2.2.2.1 c) T.2.2.2.1 m + T.2.1 m - T.2.2.1 m) i → Wm G X 4 Q 4 [(0, .ref (gb_ad G 19)), (1, .int (nI (c))), (2, .int (nI (w))), (3, .int (nI (i)))] [] mM := by
    intro k
    induction k using Nat.strongRecOn with
    | ind k ih_JA =>
      intro i w hk hi3 hw
      have hwl : w ≤ i * 200 := by rw [hw]; exact sSum_le (fun m hm => by have h1 := gMet_le ok hdl (m := m) ok.1; have h2 := ok.2.2.1 m (by omega); omega)
      refine w_iload_n (n := 5) O dX0_judge_4 rfl rfl rfl ?_
      refine w_iconst (n := 6) O dX0_judge_5 (v := (nI 3)) (by decide) rfl ?_
      refine w_icmp_geN (n := 9) (tgt := 28) O dX0_judge_6 (by omega) (by omega) (by decide) rfl (fun c_1 => ?_) (fun c_1 => ?_)
      · skip
        have ei : i = 3 := by omega
        subst ei
        have hbw : bWt (setG T (dig T.2.2.2.1 c)) = w := by rw [hw]; exact sSum_cong (fun m _ => bell_setG)
        have htap : ∀ i4 : Nat, tTap (setG T (dig T.2.2.2.1 c)) i4 = (gSum T (dig T.2.2.2.1 c) T.2.2.2.1 (i4 % 3) + i4 * w) % 10 := fun i4 => by rw [tap_setG, hbw, gSum_mod, Nat.add_comm]
        refine w_iconst (n := 29) O dX0_judge_28 (v := (nI 0)) (by decide) rfl ?_
        refine w_istore_n (n := 30) (lv' := [(3, .int (nI 0)), (0, .ref (gb_ad G 19)), (1, .int (nI (c))), (2, .int (nI (w)))]) O dX0_judge_29 rfl (by decide) rfl rfl ?_
        have JB : ∀ (k : Nat) (q : Nat), sn - q = k → q ≤ sn → sAll (fun k => decide (tTap (setG T (dig T.2.2.2.1 c)) (st k) = sf k)) q = true → Wm G X 4 Q 30 [(0, .ref (gb_ad G 19)), (1, .int (nI (c))), (2, .int (nI (w))), (3, .int (nI (q)))] [] mM := by
          intro k
          induction k using Nat.strongRecOn with
          | ind k ih_JB =>
            intro q hk hq hall
            refine w_iload_n (n := 31) O dX0_judge_30 rfl rfl rfl ?_
            refine w_aload_n (n := 32) O dX0_judge_31 rfl rfl rfl ?_
            refine w_getf (n := 35) O 2 dX0_judge_32 (by omega) hG.1 rfl (by decide) uX0 uf_X0_18 rfl rfl ?_
            refine w_icmp_geN (n := 38) (tgt := 65) O dX0_judge_35 (by omega) (by omega) (by decide) rfl (fun c_2 => ?_) (fun c_2 => ?_)
            · skip
              refine w_aload_n (n := 66) O dX0_judge_65 rfl rfl rfl ?_
              refine w_getf (n := 69) O 3 dX0_judge_66 (by omega) hG.1 rfl (by decide) uX0 uf_X0_22 rfl rfl ?_
              refine w_if_neN (n := 72) (tgt := 77) O dX0_judge_69 (by omega) (by decide) rfl (fun c_3 => ?_) (fun c_3 => ?_)
              · skip
                refine w_aload_n (n := 78) O dX0_judge_77 rfl rfl rfl ?_
                refine w_dup (n := 79) O dX0_judge_78 rfl rfl ?_
                refine w_getf (n := 82) O 3 dX0_judge_79 (by omega) hG.1 rfl (by decide) uX0 uf_X0_22 rfl rfl ?_
                refine w_iconst (n := 83) O dX0_judge_82 (v := (nI 1)) (by decide) rfl ?_
                refine w_iaddN (n := 84) O dX0_judge_83 rfl ?_
                refine w_putf (n := 87) (fs' := [.ref (gb_ad G 20), .ref (gb_ad G 21), .int (nI (sn)), .int (nI ((ft + 1))), .int (oI ln), .ref (gb_ad G 22), .ref (gb_ad G 23), .ref (gb_ad G 24), .ref (gb_ad G 25), .ref (gb_ad G 26), .ref (gb_ad G 27), .ref (gb_ad G 28), .ref (gb_ad G 29), .int (nI (T.2.2.2.1)), .int (bI (tl))]) O 3 dX0_judge_84 (by omega) hG.1 rfl (by decide) uX0 uf_X0_22 tyX0 tyX0_ok nmX0 rfl rfl rfl (Nat.le_of_ble_eq_true rfl) rfl rfl ?_
                refine w_iconst (n := 88) O dX0_judge_87 (v := (nI 0)) (by decide) rfl ?_
                refine w_istore_n (n := 89) (lv' := [(3, .int (nI 0)), (0, .ref (gb_ad G 19)), (1, .int (nI (c))), (2, .int (nI (w)))]) O dX0_judge_88 rfl (by decide) rfl rfl ?_
                have JCn : ∀ (k : Nat) (i2 : Nat) (m1 : gb_M), T.2.2.2.1 - i2 = k → i2 ≤ T.2.2.2.1 → isG G m1 st sf sn (ft + 1) (ln) (fun g => if g < i2 then min (lo g) (dig T.2.2.2.1 c g) else lo g) (fun g => if g < i2 then max (hi g) (dig T.2.2.2.1 c g) else hi g) le gi mo gu ts am T.2.2.2.1 tl → sm mM m1 19 29 → Wm G X 4 Q 89 [(0, .ref (gb_ad G 19)), (1, .int (nI (c))), (2, .int (nI (w))), (3, .int (nI (i2)))] [] m1 := by
                  intro k
                  induction k using Nat.strongRecOn with
                  | ind k ih_JCn =>
                    intro i2 m1 hk hi2 hG1 hs1
                    refine w_iload_n (n := 90) O dX0_judge_89 rfl rfl rfl ?_
                    refine w_aload_n (n := 91) O dX0_judge_90 rfl rfl rfl ?_
                    refine w_getf (n := 94) O 13 dX0_judge_91 (by omega) hG1.1 rfl (by decide) uX0 uf_X0_52 rfl rfl ?_
                    refine w_icmp_geN (n := 97) (tgt := 145) O dX0_judge_94 (by omega) (by omega) (by decide) rfl (fun c_4 => ?_) (fun c_4 => ?_)
                    · skip
                      refine w_aload_n (n := 146) O dX0_judge_145 rfl rfl rfl ?_
                      refine w_getf (n := 149) O 14 dX0_judge_146 (by omega) hG1.1 rfl (by decide) uX0 uf_X0_55 rfl rfl ?_
                      refine w_if_neB (n := 152) (tgt := 153) O dX0_judge_149 (by decide) rfl (fun c_5 => ?_) (fun c_5 => ?_)
                      · skip
                        refine w_iconst (n := 154) O dX0_judge_153 (v := (nI 0)) (by decide) rfl ?_
                        refine w_istore_n (n := 155) (lv' := [(3, .int (nI 0)), (0, .ref (gb_ad G 19)), (1, .int (nI (c))), (2, .int (nI (w)))]) O dX0_judge_154 rfl (by decide) rfl rfl ?_
                        have JDn : ∀ (k : Nat) (i3 : Nat) (m2 : gb_M) (le2 : Nat → Nat), 9 - i3 = k → i3 ≤ 9 → (∀ k, le2 k = (fun k => if k < i3 * 10 ∧ tTap (setG T (dig T.2.2.2.1 c)) (k / 10) = k % 10 then le k + 1 else le k) k) → isG G m2 st sf sn (ft + 1) (ln) (fun g => if g < i2 then min (lo g) (dig T.2.2.2.1 c g) else lo g) (fun g => if g < i2 then max (hi g) (dig T.2.2.2.1 c g) else hi g) le2 gi mo gu ts am T.2.2.2.1 tl → sm mM m2 19 29 → Wm G X 4 Q 155 [(0, .ref (gb_ad G 19)), (1, .int (nI (c))), (2, .int (nI (w))), (3, .int (nI (i3)))] [] m2 := by
                          intro k
                          induction k using Nat.strongRecOn with
                          | ind k ih_JDn =>
                            intro i3 m2 le2 hk hi3b hle2 hG2 hs2
                            refine w_iload_n (n := 156) O dX0_judge_155 rfl rfl rfl ?_
                            refine w_bipush (n := 158) O dX0_judge_156 (v := (nI 9)) (by decide) rfl ?_
                            refine w_icmp_geN (n := 161) (tgt := 187) O dX0_judge_158 (by omega) (by omega) (by decide) rfl (fun c_6 => ?_) (fun c_6 => ?_)
                            · skip
                              refine w_vret O dX0_judge_187 ?_
                              have hF : fitB T st sf sn c = true := by unfold fitB; rw [show sn = q by omega]; exact hall
                              have eln : (if ft = 0 then some c else ln) = ln := if_neg c_3
                              have hfo := fold_yes (lo2 := fun g => if g < i2 then min (lo g) (dig T.2.2.2.1 c g) else lo g) (hi2 := fun g => if g < i2 then max (hi g) (dig T.2.2.2.1 c g) else hi g) (le2 := le2) hfold hF (fun g hg => ⟨if_pos (by omega), if_pos (by omega)⟩) (fun k hk => by rw [hle2 k, if_pos c_5]; simp only []; by_cases e : tTap (setG T (dig T.2.2.2.1 c)) (k / 10) = k % 10; (rw [if_pos ⟨by omega, e⟩, if_pos e]); (rw [if_neg (fun z => e z.2), if_neg e]; rfl))
                              rw [eln] at hfo
                              exact hQ _ _ _ _ _ _ ⟨hG2.1, hG2.2.1, hG2.2.2.1, hG2.2.2.2.1, hG2.2.2.2.2.1, hG2.2.2.2.2.2.1, hG2.2.2.2.2.2.2.1, hG2.2.2.2.2.2.2.2.1, hG2.2.2.2.2.2.2.2.2.1, hG2.2.2.2.2.2.2.2.2.2.1, hG2.2.2.2.2.2.2.2.2.2.2⟩ hfo hs2
                            · skip
                              have hle90 := hleb
                              refine w_aload_n (n := 162) O dX0_judge_161 rfl rfl rfl ?_
                              refine w_getf (n := 165) O 7 dX0_judge_162 (by omega) hG2.1 rfl (by decide) uX0 uf_X0_34 rfl rfl ?_
                              refine w_iload_n (n := 166) O dX0_judge_165 rfl rfl rfl ?_
                              refine w_bipush (n := 168) O dX0_judge_166 (v := (nI 10)) (by decide) rfl ?_
                              refine w_imulN (n := 169) O dX0_judge_168 rfl ?_
                              refine w_aload_n (n := 170) O dX0_judge_169 rfl rfl rfl ?_
                              refine w_iload_n (n := 171) O dX0_judge_170 rfl rfl rfl ?_
                              refine w_iload_n (n := 172) O dX0_judge_171 rfl rfl rfl ?_
                              refine w_cV (n := 175) (ro := some (.int (nI ((gSum T (dig T.2.2.2.1 c) T.2.2.2.1 (i3 % 3) + i3 * w) % 10)))) (R := fun mM' => m2 = mM') (st := [.int (nI ((i3 * 10))), .ref (gb_ad G 24)]) (st1 := [.int (nI ((gSum T (dig T.2.2.2.1 c) T.2.2.2.1 (i3 % 3) + i3 * w) % 10)), .int (nI ((i3 * 10))), .ref (gb_ad G 24)]) (As := [.int (nI (i3)), .int (nI (w))]) (b := 19) O dX0_judge_172 ul_X0_113 um_X0_figureAt (f_X0_figureAt hW ⟨hG2.1, hG2.2.1, hG2.2.2.1, hG2.2.2.2.1, hG2.2.2.2.2.1, hG2.2.2.2.2.2.1, hG2.2.2.2.2.2.2.1, hG2.2.2.2.2.2.2.2.1, hG2.2.2.2.2.2.2.2.2.1, hG2.2.2.2.2.2.2.2.2.2.1, hG2.2.2.2.2.2.2.2.2.2.2⟩ (by omega) (hmid.1 _ (by omega)) (Nat.le_trans (gSum_le (r := i3 % 3) ok hdl ok.1) (by decide)) (by omega) ⟨rfl, rfl⟩) rfl (by omega) hG2.1 rfl rfl rfl rfl (by decide) (Nat.le_of_ble_eq_true rfl) rfl (fun mhM_7 hM_7 => ?_)
                              subst hM_7
                              refine w_iaddN (n := 176) O dX0_judge_175 rfl ?_
                              refine w_dup2 (n := 177) O dX0_judge_176 rfl rfl rfl ?_
                              refine w_ialdN (n := 178) O dX0_judge_177 hW.2.1 (by omega) hG2.2.2.2.2.2.1 (by omega) (by decide) rfl ?_
                              refine w_iconst (n := 179) O dX0_judge_178 (v := (nI 1)) (by decide) rfl ?_
                              refine w_iaddN (n := 180) O dX0_judge_179 rfl ?_
                              refine w_iastN (n := 181) O dX0_judge_180 hW.2.1 (by omega) hG2.2.2.2.2.2.1 (by omega) (by decide) rfl ?_
                              refine w_iincN (n := 184) (lv' := [(3, .int (nI (i3 + 1))), (0, .ref (gb_ad G 19)), (1, .int (nI (c))), (2, .int (nI (w)))]) O dX0_judge_181 rfl (by decide) rfl rfl ?_
                              refine w_goto (tgt := 155) O dX0_judge_184 (by decide) ?_
                              refine w_lv (lv2 := [(0, .ref (gb_ad G 19)), (1, .int (nI (c))), (2, .int (nI (w))), (3, .int (nI (i3 + 1)))]) [1, 2, 3, 0] rfl ?_
                              exact ih_JDn _ (by omega) (i3 + 1) _ _ rfl (by omega) (fun k => by exact le_step hle2 (htap i3) k) ⟨((va_up_ne _ _ (by decide)).trans hG2.1), ((va_up_ne _ _ (by decide)).trans hG2.2.1), ((va_up_ne _ _ (by decide)).trans hG2.2.2.1), ((va_up_ne _ _ (by decide)).trans hG2.2.2.2.1), ((va_up_ne _ _ (by decide)).trans hG2.2.2.2.2.1), (va_up_self _ _ _), ((va_up_ne _ _ (by decide)).trans hG2.2.2.2.2.2.2.1), ((va_up_ne _ _ (by decide)).trans hG2.2.2.2.2.2.2.2.1), ((va_up_ne _ _ (by decide)).trans hG2.2.2.2.2.2.2.2.2.1), ((va_up_ne _ _ (by decide)).trans hG2.2.2.2.2.2.2.2.2.2.1), ((va_up_ne _ _ (by decide)).trans hG2.2.2.2.2.2.2.2.2.2.2)⟩ (hs2.up (by omega) (by omega))
                        refine w_lv (lv2 := [(0, .ref (gb_ad G 19)), (1, .int (nI (c))), (2, .int (nI (w))), (3, .int (nI 0))]) [1, 2, 3, 0] rfl ?_
                        exact JDn _ 0 _ le rfl (by omega) (fun k => by simp) ⟨hG1.1, hG1.2.1, hG1.2.2.1, hG1.2.2.2.1, hG1.2.2.2.2.1, hG1.2.2.2.2.2.1, hG1.2.2.2.2.2.2.1, hG1.2.2.2.2.2.2.2.1, hG1.2.2.2.2.2.2.2.2.1, hG1.2.2.2.2.2.2.2.2.2.1, hG1.2.2.2.2.2.2.2.2.2.2⟩ hs1
                      · skip
                        refine w_vret O dX0_judge_152 ?_
                        have hF : fitB T st sf sn c = true := by unfold fitB; rw [show sn = q by omega]; exact hall
                        have eln : (if ft = 0 then some c else ln) = ln := if_neg c_3
                        have hfo := fold_yes (lo2 := fun g => if g < i2 then min (lo g) (dig T.2.2.2.1 c g) else lo g) (hi2 := fun g => if g < i2 then max (hi g) (dig T.2.2.2.1 c g) else hi g) (le2 := le) hfold hF (fun g hg => ⟨if_pos (by omega), if_pos (by omega)⟩) (fun k hk => by rw [if_neg (by rw [c_5]; decide)])
                        rw [eln] at hfo
                        exact hQ _ _ _ _ _ _ ⟨hG1.1, hG1.2.1, hG1.2.2.1, hG1.2.2.2.1, hG1.2.2.2.2.1, hG1.2.2.2.2.2.1, hG1.2.2.2.2.2.2.1, hG1.2.2.2.2.2.2.2.1, hG1.2.2.2.2.2.2.2.2.1, hG1.2.2.2.2.2.2.2.2.2.1, hG1.2.2.2.2.2.2.2.2.2.2⟩ hfo hs1
                    · skip
                      have hlo := hlh i2 (by omega)
                      have hg2 := hgu i2 (by omega)
                      have hdi := hdl i2
                      refine w_aload_n (n := 98) O dX0_judge_97 rfl rfl rfl ?_
                      refine w_getf (n := 101) O 5 dX0_judge_98 (by omega) hG1.1 rfl (by decide) uX0 uf_X0_28 rfl rfl ?_
                      refine w_iload_n (n := 102) O dX0_judge_101 rfl rfl rfl ?_
                      refine w_aload_n (n := 103) O dX0_judge_102 rfl rfl rfl ?_
                      refine w_getf (n := 106) O 5 dX0_judge_103 (by omega) hG1.1 rfl (by decide) uX0 uf_X0_28 rfl rfl ?_
                      refine w_iload_n (n := 107) O dX0_judge_106 rfl rfl rfl ?_
                      refine w_ialdN (n := 108) O dX0_judge_107 hW.2.1 (by omega) hG1.2.2.2.1 (by omega) (by decide) rfl ?_
                      refine w_aload_n (n := 109) O dX0_judge_108 rfl rfl rfl ?_
                      refine w_getf (n := 112) O 10 dX0_judge_109 (by omega) hG1.1 rfl (by decide) uX0 uf_X0_43 rfl rfl ?_
                      refine w_iload_n (n := 113) O dX0_judge_112 rfl rfl rfl ?_
                      refine w_ialdN (n := 114) O dX0_judge_113 hW.2.1 (by omega) hG1.2.2.2.2.2.2.2.2.1 (by omega) (by decide) rfl ?_
                      refine w_mmin (n := 117) O dX0_judge_114 ul_X0_116 ux_static_min ui_java_lang_Math ux_code_min (by omega) (Nat.le_of_ble_eq_true rfl) rfl ?_
                      refine w_top (nI (min (lo i2) (dig T.2.2.2.1 c i2))) (by simp only [Nat.lt_irrefl, if_false]; rw [hg2]; exact nI_minN (by omega) (by omega)) ?_
                      refine w_iastN (n := 118) O dX0_judge_117 hW.2.1 (by omega) hG1.2.2.2.1 (by omega) (by decide) rfl ?_
                      refine w_aload_n (n := 119) O dX0_judge_118 rfl rfl rfl ?_
                      refine w_getf (n := 122) O 6 dX0_judge_119 (by omega) ((va_up_ne _ _ (by decide)).trans hG1.1) rfl (by decide) uX0 uf_X0_31 rfl rfl ?_
                      refine w_iload_n (n := 123) O dX0_judge_122 rfl rfl rfl ?_
                      refine w_aload_n (n := 124) O dX0_judge_123 rfl rfl rfl ?_
                      refine w_getf (n := 127) O 6 dX0_judge_124 (by omega) ((va_up_ne _ _ (by decide)).trans hG1.1) rfl (by decide) uX0 uf_X0_31 rfl rfl ?_
                      refine w_iload_n (n := 128) O dX0_judge_127 rfl rfl rfl ?_
                      refine w_ialdN (n := 129) O dX0_judge_128 hW.2.1 (by omega) ((va_up_ne _ _ (by decide)).trans hG1.2.2.2.2.1) (by omega) (by decide) rfl ?_
                      refine w_aload_n (n := 130) O dX0_judge_129 rfl rfl rfl ?_
                      refine w_getf (n := 133) O 10 dX0_judge_130 (by omega) ((va_up_ne _ _ (by decide)).trans hG1.1) rfl (by decide) uX0 uf_X0_43 rfl rfl ?_
                      refine w_iload_n (n := 134) O dX0_judge_133 rfl rfl rfl ?_
                      refine w_ialdN (n := 135) O dX0_judge_134 hW.2.1 (by omega) ((va_up_ne _ _ (by decide)).trans hG1.2.2.2.2.2.2.2.2.1) (by omega) (by decide) rfl ?_
                      refine w_mmax (n := 138) O dX0_judge_135 ul_X0_73 ux_static_max ui_java_lang_Math ux_code_max (by omega) (Nat.le_of_ble_eq_true rfl) rfl ?_
                      refine w_top (nI (max (hi i2) (dig T.2.2.2.1 c i2))) (by simp only [Nat.lt_irrefl, if_false]; rw [hg2]; exact nI_maxN (by omega) (by omega)) ?_
                      refine w_iastN (n := 139) O dX0_judge_138 hW.2.1 (by omega) ((va_up_ne _ _ (by decide)).trans hG1.2.2.2.2.1) (by omega) (by decide) rfl ?_
                      refine w_iincN (n := 142) (lv' := [(3, .int (nI (i2 + 1))), (0, .ref (gb_ad G 19)), (1, .int (nI (c))), (2, .int (nI (w)))]) O dX0_judge_139 rfl (by decide) rfl rfl ?_
                      refine w_goto (tgt := 89) O dX0_judge_142 (by decide) ?_
                      refine w_lv (lv2 := [(0, .ref (gb_ad G 19)), (1, .int (nI (c))), (2, .int (nI (w))), (3, .int (nI (i2 + 1)))]) [1, 2, 3, 0] rfl ?_
                      exact ih_JCn _ (by omega) (i2 + 1) _ rfl (by omega) (by rw [← upN_fill (fun g => min (lo g) (dig T.2.2.2.1 c g)) lo i2, ← upN_fill (fun g => max (hi g) (dig T.2.2.2.1 c g)) hi i2]; exact ⟨((va_up_ne _ _ (by decide)).trans ((va_up_ne _ _ (by decide)).trans hG1.1)), ((va_up_ne _ _ (by decide)).trans ((va_up_ne _ _ (by decide)).trans hG1.2.1)), ((va_up_ne _ _ (by decide)).trans ((va_up_ne _ _ (by decide)).trans hG1.2.2.1)), ((va_up_ne _ _ (by decide)).trans (va_up_self _ _ _)), (va_up_self _ _ _), ((va_up_ne _ _ (by decide)).trans ((va_up_ne _ _ (by decide)).trans hG1.2.2.2.2.2.1)), ((va_up_ne _ _ (by decide)).trans ((va_up_ne _ _ (by decide)).trans hG1.2.2.2.2.2.2.1)), ((va_up_ne _ _ (by decide)).trans ((va_up_ne _ _ (by decide)).trans hG1.2.2.2.2.2.2.2.1)), ((va_up_ne _ _ (by decide)).trans ((va_up_ne _ _ (by decide)).trans hG1.2.2.2.2.2.2.2.2.1)), ((va_up_ne _ _ (by decide)).trans ((va_up_ne _ _ (by decide)).trans hG1.2.2.2.2.2.2.2.2.2.1)), ((va_up_ne _ _ (by decide)).trans ((va_up_ne _ _ (by decide)).trans hG1.2.2.2.2.2.2.2.2.2.2))⟩) ((hs1.up (by omega) (by omega)).up (by omega) (by omega))
                refine w_lv (lv2 := [(0, .ref (gb_ad G 19)), (1, .int (nI (c))), (2, .int (nI (w))), (3, .int (nI 0))]) [1, 2, 3, 0] rfl ?_
                exact JCn _ 0 _ rfl (Nat.zero_le _) (by rw [show (fun g => if g < 0 then min (lo g) (dig T.2.2.2.1 c g) else lo g) = lo from funext (fun g => if_neg (Nat.not_lt_zero g)), show (fun g => if g < 0 then max (hi g) (dig T.2.2.2.1 c g) else hi g) = hi from funext (fun g => if_neg (Nat.not_lt_zero g))]; exact ⟨(va_up_self _ _ _), ((va_up_ne _ _ (by decide)).trans hG.2.1), ((va_up_ne _ _ (by decide)).trans hG.2.2.1), ((va_up_ne _ _ (by decide)).trans hG.2.2.2.1), ((va_up_ne _ _ (by decide)).trans hG.2.2.2.2.1), ((va_up_ne _ _ (by decide)).trans hG.2.2.2.2.2.1), ((va_up_ne _ _ (by decide)).trans hG.2.2.2.2.2.2.1), ((va_up_ne _ _ (by decide)).trans hG.2.2.2.2.2.2.2.1), ((va_up_ne _ _ (by decide)).trans hG.2.2.2.2.2.2.2.2.1), ((va_up_ne _ _ (by decide)).trans hG.2.2.2.2.2.2.2.2.2.1), ((va_up_ne _ _ (by decide)).trans hG.2.2.2.2.2.2.2.2.2.2)⟩) (sm.rf.up (by omega) (by omega))
              · skip
                refine w_aload_n (n := 73) O dX0_judge_72 rfl rfl rfl ?_
                refine w_iload_n (n := 74) O dX0_judge_73 rfl rfl rfl ?_
                refine w_putf (n := 77) (fs' := [.ref (gb_ad G 20), .ref (gb_ad G 21), .int (nI (sn)), .int (nI (ft)), .int (nI (c)), .ref (gb_ad G 22), .ref (gb_ad G 23), .ref (gb_ad G 24), .ref (gb_ad G 25), .ref (gb_ad G 26), .ref (gb_ad G 27), .ref (gb_ad G 28), .ref (gb_ad G 29), .int (nI (T.2.2.2.1)), .int (bI (tl))]) O 4 dX0_judge_74 (by omega) hG.1 rfl (by decide) uX0 uf_X0_25 tyX0 tyX0_ok nmX0 rfl rfl rfl (Nat.le_of_ble_eq_true rfl) rfl rfl ?_
                refine w_aload_n (n := 78) O dX0_judge_77 rfl rfl rfl ?_
                refine w_dup (n := 79) O dX0_judge_78 rfl rfl ?_
                refine w_getf (n := 82) O 3 dX0_judge_79 (by omega) (va_up_self _ _ _) rfl (by decide) uX0 uf_X0_22 rfl rfl ?_
                refine w_iconst (n := 83) O dX0_judge_82 (v := (nI 1)) (by decide) rfl ?_
                refine w_iaddN (n := 84) O dX0_judge_83 rfl ?_
                refine w_putf (n := 87) (fs' := [.ref (gb_ad G 20), .ref (gb_ad G 21), .int (nI (sn)), .int (nI ((ft + 1))), .int (nI (c)), .ref (gb_ad G 22), .ref (gb_ad G 23), .ref (gb_ad G 24), .ref (gb_ad G 25), .ref (gb_ad G 26), .ref (gb_ad G 27), .ref (gb_ad G 28), .ref (gb_ad G 29), .int (nI (T.2.2.2.1)), .int (bI (tl))]) O 3 dX0_judge_84 (by omega) (va_up_self _ _ _) rfl (by decide) uX0 uf_X0_22 tyX0 tyX0_ok nmX0 rfl rfl rfl (Nat.le_of_ble_eq_true rfl) rfl rfl ?_
                refine w_iconst (n := 88) O dX0_judge_87 (v := (nI 0)) (by decide) rfl ?_
                refine w_istore_n (n := 89) (lv' := [(3, .int (nI 0)), (0, .ref (gb_ad G 19)), (1, .int (nI (c))), (2, .int (nI (w)))]) O dX0_judge_88 rfl (by decide) rfl rfl ?_
                have JCz : ∀ (k : Nat) (i2 : Nat) (m1 : gb_M), T.2.2.2.1 - i2 = k → i2 ≤ T.2.2.2.1 → isG G m1 st sf sn (ft + 1) (some c) (fun g => if g < i2 then min (lo g) (dig T.2.2.2.1 c g) else lo g) (fun g => if g < i2 then max (hi g) (dig T.2.2.2.1 c g) else hi g) le gi mo gu ts am T.2.2.2.1 tl → sm mM m1 19 29 → Wm G X 4 Q 89 [(0, .ref (gb_ad G 19)), (1, .int (nI (c))), (2, .int (nI (w))), (3, .int (nI (i2)))] [] m1 := by
                  intro k
                  induction k using Nat.strongRecOn with
                  | ind k ih_JCz =>
                    intro i2 m1 hk hi2 hG1 hs1
                    refine w_iload_n (n := 90) O dX0_judge_89 rfl rfl rfl ?_
                    refine w_aload_n (n := 91) O dX0_judge_90 rfl rfl rfl ?_
                    refine w_getf (n := 94) O 13 dX0_judge_91 (by omega) hG1.1 rfl (by decide) uX0 uf_X0_52 rfl rfl ?_
                    refine w_icmp_geN (n := 97) (tgt := 145) O dX0_judge_94 (by omega) (by omega) (by decide) rfl (fun c_8 => ?_) (fun c_8 => ?_)
                    · skip
                      refine w_aload_n (n := 146) O dX0_judge_145 rfl rfl rfl ?_
                      refine w_getf (n := 149) O 14 dX0_judge_146 (by omega) hG1.1 rfl (by decide) uX0 uf_X0_55 rfl rfl ?_
                      refine w_if_neB (n := 152) (tgt := 153) O dX0_judge_149 (by decide) rfl (fun c_9 => ?_) (fun c_9 => ?_)
                      · skip
                        refine w_iconst (n := 154) O dX0_judge_153 (v := (nI 0)) (by decide) rfl ?_
                        refine w_istore_n (n := 155) (lv' := [(3, .int (nI 0)), (0, .ref (gb_ad G 19)), (1, .int (nI (c))), (2, .int (nI (w)))]) O dX0_judge_154 rfl (by decide) rfl rfl ?_
                        have JDz : ∀ (k : Nat) (i3 : Nat) (m2 : gb_M) (le2 : Nat → Nat), 9 - i3 = k → i3 ≤ 9 → (∀ k, le2 k = (fun k => if k < i3 * 10 ∧ tTap (setG T (dig T.2.2.2.1 c)) (k / 10) = k % 10 then le k + 1 else le k) k) → isG G m2 st sf sn (ft + 1) (some c) (fun g => if g < i2 then min (lo g) (dig T.2.2.2.1 c g) else lo g) (fun g => if g < i2 then max (hi g) (dig T.2.2.2.1 c g) else hi g) le2 gi mo gu ts am T.2.2.2.1 tl → sm mM m2 19 29 → Wm G X 4 Q 155 [(0, .ref (gb_ad G 19)), (1, .int (nI (c))), (2, .int (nI (w))), (3, .int (nI (i3)))] [] m2 := by
                          intro k
                          induction k using Nat.strongRecOn with
                          | ind k ih_JDz =>
                            intro i3 m2 le2 hk hi3b hle2 hG2 hs2
                            refine w_iload_n (n := 156) O dX0_judge_155 rfl rfl rfl ?_
                            refine w_bipush (n := 158) O dX0_judge_156 (v := (nI 9)) (by decide) rfl ?_
                            refine w_icmp_geN (n := 161) (tgt := 187) O dX0_judge_158 (by omega) (by omega) (by decide) rfl (fun c_10 => ?_) (fun c_10 => ?_)
                            · skip
                              refine w_vret O dX0_judge_187 ?_
                              have hF : fitB T st sf sn c = true := by unfold fitB; rw [show sn = q by omega]; exact hall
                              have eln : (if ft = 0 then some c else ln) = some c := if_pos c_3
                              have hfo := fold_yes (lo2 := fun g => if g < i2 then min (lo g) (dig T.2.2.2.1 c g) else lo g) (hi2 := fun g => if g < i2 then max (hi g) (dig T.2.2.2.1 c g) else hi g) (le2 := le2) hfold hF (fun g hg => ⟨if_pos (by omega), if_pos (by omega)⟩) (fun k hk => by rw [hle2 k, if_pos c_9]; simp only []; by_cases e : tTap (setG T (dig T.2.2.2.1 c)) (k / 10) = k % 10; (rw [if_pos ⟨by omega, e⟩, if_pos e]); (rw [if_neg (fun z => e z.2), if_neg e]; rfl))
                              rw [eln] at hfo
                              exact hQ _ _ _ _ _ _ ⟨hG2.1, hG2.2.1, hG2.2.2.1, hG2.2.2.2.1, hG2.2.2.2.2.1, hG2.2.2.2.2.2.1, hG2.2.2.2.2.2.2.1, hG2.2.2.2.2.2.2.2.1, hG2.2.2.2.2.2.2.2.2.1, hG2.2.2.2.2.2.2.2.2.2.1, hG2.2.2.2.2.2.2.2.2.2.2⟩ hfo hs2
                            · skip
                              have hle90 := hleb
                              refine w_aload_n (n := 162) O dX0_judge_161 rfl rfl rfl ?_
                              refine w_getf (n := 165) O 7 dX0_judge_162 (by omega) hG2.1 rfl (by decide) uX0 uf_X0_34 rfl rfl ?_
                              refine w_iload_n (n := 166) O dX0_judge_165 rfl rfl rfl ?_
                              refine w_bipush (n := 168) O dX0_judge_166 (v := (nI 10)) (by decide) rfl ?_
                              refine w_imulN (n := 169) O dX0_judge_168 rfl ?_
                              refine w_aload_n (n := 170) O dX0_judge_169 rfl rfl rfl ?_
                              refine w_iload_n (n := 171) O dX0_judge_170 rfl rfl rfl ?_
                              refine w_iload_n (n := 172) O dX0_judge_171 rfl rfl rfl ?_
                              refine w_cV (n := 175) (ro := some (.int (nI ((gSum T (dig T.2.2.2.1 c) T.2.2.2.1 (i3 % 3) + i3 * w) % 10)))) (R := fun mM' => m2 = mM') (st := [.int (nI ((i3 * 10))), .ref (gb_ad G 24)]) (st1 := [.int (nI ((gSum T (dig T.2.2.2.1 c) T.2.2.2.1 (i3 % 3) + i3 * w) % 10)), .int (nI ((i3 * 10))), .ref (gb_ad G 24)]) (As := [.int (nI (i3)), .int (nI (w))]) (b := 19) O dX0_judge_172 ul_X0_113 um_X0_figureAt (f_X0_figureAt hW ⟨hG2.1, hG2.2.1, hG2.2.2.1, hG2.2.2.2.1, hG2.2.2.2.2.1, hG2.2.2.2.2.2.1, hG2.2.2.2.2.2.2.1, hG2.2.2.2.2.2.2.2.1, hG2.2.2.2.2.2.2.2.2.1, hG2.2.2.2.2.2.2.2.2.2.1, hG2.2.2.2.2.2.2.2.2.2.2⟩ (by omega) (hmid.1 _ (by omega)) (Nat.le_trans (gSum_le (r := i3 % 3) ok hdl ok.1) (by decide)) (by omega) ⟨rfl, rfl⟩) rfl (by omega) hG2.1 rfl rfl rfl rfl (by decide) (Nat.le_of_ble_eq_true rfl) rfl (fun mhM_11 hM_11 => ?_)
                              subst hM_11
                              refine w_iaddN (n := 176) O dX0_judge_175 rfl ?_
                              refine w_dup2 (n := 177) O dX0_judge_176 rfl rfl rfl ?_
                              refine w_ialdN (n := 178) O dX0_judge_177 hW.2.1 (by omega) hG2.2.2.2.2.2.1 (by omega) (by decide) rfl ?_
                              refine w_iconst (n := 179) O dX0_judge_178 (v := (nI 1)) (by decide) rfl ?_
                              refine w_iaddN (n := 180) O dX0_judge_179 rfl ?_
                              refine w_iastN (n := 181) O dX0_judge_180 hW.2.1 (by omega) hG2.2.2.2.2.2.1 (by omega) (by decide) rfl ?_
                              refine w_iincN (n := 184) (lv' := [(3, .int (nI (i3 + 1))), (0, .ref (gb_ad G 19)), (1, .int (nI (c))), (2, .int (nI (w)))]) O dX0_judge_181 rfl (by decide) rfl rfl ?_
                              refine w_goto (tgt := 155) O dX0_judge_184 (by decide) ?_
                              refine w_lv (lv2 := [(0, .ref (gb_ad G 19)), (1, .int (nI (c))), (2, .int (nI (w))), (3, .int (nI (i3 + 1)))]) [1, 2, 3, 0] rfl ?_
                              exact ih_JDz _ (by omega) (i3 + 1) _ _ rfl (by omega) (fun k => by exact le_step hle2 (htap i3) k) ⟨((va_up_ne _ _ (by decide)).trans hG2.1), ((va_up_ne _ _ (by decide)).trans hG2.2.1), ((va_up_ne _ _ (by decide)).trans hG2.2.2.1), ((va_up_ne _ _ (by decide)).trans hG2.2.2.2.1), ((va_up_ne _ _ (by decide)).trans hG2.2.2.2.2.1), (va_up_self _ _ _), ((va_up_ne _ _ (by decide)).trans hG2.2.2.2.2.2.2.1), ((va_up_ne _ _ (by decide)).trans hG2.2.2.2.2.2.2.2.1), ((va_up_ne _ _ (by decide)).trans hG2.2.2.2.2.2.2.2.2.1), ((va_up_ne _ _ (by decide)).trans hG2.2.2.2.2.2.2.2.2.2.1), ((va_up_ne _ _ (by decide)).trans hG2.2.2.2.2.2.2.2.2.2.2)⟩ (hs2.up (by omega) (by omega))
                        refine w_lv (lv2 := [(0, .ref (gb_ad G 19)), (1, .int (nI (c))), (2, .int (nI (w))), (3, .int (nI 0))]) [1, 2, 3, 0] rfl ?_
                        exact JDz _ 0 _ le rfl (by omega) (fun k => by simp) ⟨hG1.1, hG1.2.1, hG1.2.2.1, hG1.2.2.2.1, hG1.2.2.2.2.1, hG1.2.2.2.2.2.1, hG1.2.2.2.2.2.2.1, hG1.2.2.2.2.2.2.2.1, hG1.2.2.2.2.2.2.2.2.1, hG1.2.2.2.2.2.2.2.2.2.1, hG1.2.2.2.2.2.2.2.2.2.2⟩ hs1
                      · skip
                        refine w_vret O dX0_judge_152 ?_
                        have hF : fitB T st sf sn c = true := by unfold fitB; rw [show sn = q by omega]; exact hall
                        have eln : (if ft = 0 then some c else ln) = some c := if_pos c_3
                        have hfo := fold_yes (lo2 := fun g => if g < i2 then min (lo g) (dig T.2.2.2.1 c g) else lo g) (hi2 := fun g => if g < i2 then max (hi g) (dig T.2.2.2.1 c g) else hi g) (le2 := le) hfold hF (fun g hg => ⟨if_pos (by omega), if_pos (by omega)⟩) (fun k hk => by rw [if_neg (by rw [c_9]; decide)])
                        rw [eln] at hfo
                        exact hQ _ _ _ _ _ _ ⟨hG1.1, hG1.2.1, hG1.2.2.1, hG1.2.2.2.1, hG1.2.2.2.2.1, hG1.2.2.2.2.2.1, hG1.2.2.2.2.2.2.1, hG1.2.2.2.2.2.2.2.1, hG1.2.2.2.2.2.2.2.2.1, hG1.2.2.2.2.2.2.2.2.2.1, hG1.2.2.2.2.2.2.2.2.2.2⟩ hfo hs1
                    · skip
                      have hlo := hlh i2 (by omega)
                      have hg2 := hgu i2 (by omega)
                      have hdi := hdl i2
                      refine w_aload_n (n := 98) O dX0_judge_97 rfl rfl rfl ?_
                      refine w_getf (n := 101) O 5 dX0_judge_98 (by omega) hG1.1 rfl (by decide) uX0 uf_X0_28 rfl rfl ?_
                      refine w_iload_n (n := 102) O dX0_judge_101 rfl rfl rfl ?_
                      refine w_aload_n (n := 103) O dX0_judge_102 rfl rfl rfl ?_
                      refine w_getf (n := 106) O 5 dX0_judge_103 (by omega) hG1.1 rfl (by decide) uX0 uf_X0_28 rfl rfl ?_
                      refine w_iload_n (n := 107) O dX0_judge_106 rfl rfl rfl ?_
                      refine w_ialdN (n := 108) O dX0_judge_107 hW.2.1 (by omega) hG1.2.2.2.1 (by omega) (by decide) rfl ?_
                      refine w_aload_n (n := 109) O dX0_judge_108 rfl rfl rfl ?_
                      refine w_getf (n := 112) O 10 dX0_judge_109 (by omega) hG1.1 rfl (by decide) uX0 uf_X0_43 rfl rfl ?_
                      refine w_iload_n (n := 113) O dX0_judge_112 rfl rfl rfl ?_
                      refine w_ialdN (n := 114) O dX0_judge_113 hW.2.1 (by omega) hG1.2.2.2.2.2.2.2.2.1 (by omega) (by decide) rfl ?_
                      refine w_mmin (n := 117) O dX0_judge_114 ul_X0_116 ux_static_min ui_java_lang_Math ux_code_min (by omega) (Nat.le_of_ble_eq_true rfl) rfl ?_
                      refine w_top (nI (min (lo i2) (dig T.2.2.2.1 c i2))) (by simp only [Nat.lt_irrefl, if_false]; rw [hg2]; exact nI_minN (by omega) (by omega)) ?_
                      refine w_iastN (n := 118) O dX0_judge_117 hW.2.1 (by omega) hG1.2.2.2.1 (by omega) (by decide) rfl ?_
                      refine w_aload_n (n := 119) O dX0_judge_118 rfl rfl rfl ?_
                      refine w_getf (n := 122) O 6 dX0_judge_119 (by omega) ((va_up_ne _ _ (by decide)).trans hG1.1) rfl (by decide) uX0 uf_X0_31 rfl rfl ?_
                      refine w_iload_n (n := 123) O dX0_judge_122 rfl rfl rfl ?_
                      refine w_aload_n (n := 124) O dX0_judge_123 rfl rfl rfl ?_
                      refine w_getf (n := 127) O 6 dX0_judge_124 (by omega) ((va_up_ne _ _ (by decide)).trans hG1.1) rfl (by decide) uX0 uf_X0_31 rfl rfl ?_
                      refine w_iload_n (n := 128) O dX0_judge_127 rfl rfl rfl ?_
                      refine w_ialdN (n := 129) O dX0_judge_128 hW.2.1 (by omega) ((va_up_ne _ _ (by decide)).trans hG1.2.2.2.2.1) (by omega) (by decide) rfl ?_
                      refine w_aload_n (n := 130) O dX0_judge_129 rfl rfl rfl ?_
                      refine w_getf (n := 133) O 10 dX0_judge_130 (by omega) ((va_up_ne _ _ (by decide)).trans hG1.1) rfl (by decide) uX0 uf_X0_43 rfl rfl ?_
                      refine w_iload_n (n := 134) O dX0_judge_133 rfl rfl rfl ?_
                      refine w_ialdN (n := 135) O dX0_judge_134 hW.2.1 (by omega) ((va_up_ne _ _ (by decide)).trans hG1.2.2.2.2.2.2.2.2.1) (by omega) (by decide) rfl ?_
                      refine w_mmax (n := 138) O dX0_judge_135 ul_X0_73 ux_static_max ui_java_lang_Math ux_code_max (by omega) (Nat.le_of_ble_eq_true rfl) rfl ?_
                      refine w_top (nI (max (hi i2) (dig T.2.2.2.1 c i2))) (by simp only [Nat.lt_irrefl, if_false]; rw [hg2]; exact nI_maxN (by omega) (by omega)) ?_
                      refine w_iastN (n := 139) O dX0_judge_138 hW.2.1 (by omega) ((va_up_ne _ _ (by decide)).trans hG1.2.2.2.2.1) (by omega) (by decide) rfl ?_
                      refine w_iincN (n := 142) (lv' := [(3, .int (nI (i2 + 1))), (0, .ref (gb_ad G 19)), (1, .int (nI (c))), (2, .int (nI (w)))]) O dX0_judge_139 rfl (by decide) rfl rfl ?_
                      refine w_goto (tgt := 89) O dX0_judge_142 (by decide) ?_
                      refine w_lv (lv2 := [(0, .ref (gb_ad G 19)), (1, .int (nI (c))), (2, .int (nI (w))), (3, .int (nI (i2 + 1)))]) [1, 2, 3, 0] rfl ?_
                      exact ih_JCz _ (by omega) (i2 + 1) _ rfl (by omega) (by rw [← upN_fill (fun g => min (lo g) (dig T.2.2.2.1 c g)) lo i2, ← upN_fill (fun g => max (hi g) (dig T.2.2.2.1 c g)) hi i2]; exact ⟨((va_up_ne _ _ (by decide)).trans ((va_up_ne _ _ (by decide)).trans hG1.1)), ((va_up_ne _ _ (by decide)).trans ((va_up_ne _ _ (by decide)).trans hG1.2.1)), ((va_up_ne _ _ (by decide)).trans ((va_up_ne _ _ (by decide)).trans hG1.2.2.1)), ((va_up_ne _ _ (by decide)).trans (va_up_self _ _ _)), (va_up_self _ _ _), ((va_up_ne _ _ (by decide)).trans ((va_up_ne _ _ (by decide)).trans hG1.2.2.2.2.2.1)), ((va_up_ne _ _ (by decide)).trans ((va_up_ne _ _ (by decide)).trans hG1.2.2.2.2.2.2.1)), ((va_up_ne _ _ (by decide)).trans ((va_up_ne _ _ (by decide)).trans hG1.2.2.2.2.2.2.2.1)), ((va_up_ne _ _ (by decide)).trans ((va_up_ne _ _ (by decide)).trans hG1.2.2.2.2.2.2.2.2.1)), ((va_up_ne _ _ (by decide)).trans ((va_up_ne _ _ (by decide)).trans hG1.2.2.2.2.2.2.2.2.2.1)), ((va_up_ne _ _ (by decide)).trans ((va_up_ne _ _ (by decide)).trans hG1.2.2.2.2.2.2.2.2.2.2))⟩) ((hs1.up (by omega) (by omega)).up (by omega) (by omega))
                refine w_lv (lv2 := [(0, .ref (gb_ad G 19)), (1, .int (nI (c))), (2, .int (nI (w))), (3, .int (nI 0))]) [1, 2, 3, 0] rfl ?_
                exact JCz _ 0 _ rfl (Nat.zero_le _) (by rw [show (fun g => if g < 0 then min (lo g) (dig T.2.2.2.1 c g) else lo g) = lo from funext (fun g => if_neg (Nat.not_lt_zero g)), show (fun g => if g < 0 then max (hi g) (dig T.2.2.2.1 c g) else hi g) = hi from funext (fun g => if_neg (Nat.not_lt_zero g))]; exact ⟨(va_up_self _ _ _), ((va_up_ne _ _ (by decide)).trans ((va_up_ne _ _ (by decide)).trans hG.2.1)), ((va_up_ne _ _ (by decide)).trans ((va_up_ne _ _ (by decide)).trans hG.2.2.1)), ((va_up_ne _ _ (by decide)).trans ((va_up_ne _ _ (by decide)).trans hG.2.2.2.1)), ((va_up_ne _ _ (by decide)).trans ((va_up_ne _ _ (by decide)).trans hG.2.2.2.2.1)), ((va_up_ne _ _ (by decide)).trans ((va_up_ne _ _ (by decide)).trans hG.2.2.2.2.2.1)), ((va_up_ne _ _ (by decide)).trans ((va_up_ne _ _ (by decide)).trans hG.2.2.2.2.2.2.1)), ((va_up_ne _ _ (by decide)).trans ((va_up_ne _ _ (by decide)).trans hG.2.2.2.2.2.2.2.1)), ((va_up_ne _ _ (by decide)).trans ((va_up_ne _ _ (by decide)).trans hG.2.2.2.2.2.2.2.2.1)), ((va_up_ne _ _ (by decide)).trans ((va_up_ne _ _ (by decide)).trans hG.2.2.2.2.2.2.2.2.2.1)), ((va_up_ne _ _ (by decide)).trans ((va_up_ne _ _ (by decide)).trans hG.2.2.2.2.2.2.2.2.2.2))⟩) ((sm.rf.up (by omega) (by omega)).up (by omega) (by omega))
            · skip
              have hq9 := hst q (by omega)
              refine w_aload_n (n := 39) O dX0_judge_38 rfl rfl rfl ?_
              refine w_aload_n (n := 40) O dX0_judge_39 rfl rfl rfl ?_
              refine w_getf (n := 43) O 0 dX0_judge_40 (by omega) hG.1 rfl (by decide) uX0 uf_X0_9 rfl rfl ?_
              refine w_iload_n (n := 44) O dX0_judge_43 rfl rfl rfl ?_
              refine w_ialdN (n := 45) O dX0_judge_44 hW.2.1 (by omega) hG.2.1 (by omega) (by decide) rfl ?_
              refine w_iload_n (n := 46) O dX0_judge_45 rfl rfl rfl ?_
              refine w_cV (n := 49) (ro := some (.int (nI ((gSum T (dig T.2.2.2.1 c) T.2.2.2.1 (st (q) % 3) + st (q) * w) % 10)))) (R := fun mM' => mM = mM') (st := []) (st1 := [.int (nI ((gSum T (dig T.2.2.2.1 c) T.2.2.2.1 (st (q) % 3) + st (q) * w) % 10))]) (As := [.int (nI (st (q))), .int (nI (w))]) (b := 19) O dX0_judge_46 ul_X0_113 um_X0_figureAt (f_X0_figureAt hW ⟨hG.1, hG.2.1, hG.2.2.1, hG.2.2.2.1, hG.2.2.2.2.1, hG.2.2.2.2.2.1, hG.2.2.2.2.2.2.1, hG.2.2.2.2.2.2.2.1, hG.2.2.2.2.2.2.2.2.1, hG.2.2.2.2.2.2.2.2.2.1, hG.2.2.2.2.2.2.2.2.2.2⟩ (by have := hst q (by omega); omega) (hmid.1 _ (by omega)) (Nat.le_trans (gSum_le (r := st (q) % 3) ok hdl ok.1) (by decide)) (by omega) ⟨rfl, rfl⟩) rfl (by omega) hG.1 rfl rfl rfl rfl (by decide) (Nat.le_of_ble_eq_true rfl) rfl (fun mhM_12 hM_12 => ?_)
              subst hM_12
              have hq8 := hst q (by omega)
              refine w_aload_n (n := 50) O dX0_judge_49 rfl rfl rfl ?_
              refine w_getf (n := 53) O 1 dX0_judge_50 (by omega) hG.1 rfl (by decide) uX0 uf_X0_15 rfl rfl ?_
              refine w_iload_n (n := 54) O dX0_judge_53 rfl rfl rfl ?_
              refine w_ialdN (n := 55) O dX0_judge_54 hW.2.1 (by omega) hG.2.2.1 (by omega) (by decide) rfl ?_
              refine w_icmp_eqN (n := 58) (tgt := 59) O dX0_judge_55 (by omega) (by omega) (by decide) rfl (fun c_13 => ?_) (fun c_13 => ?_)
              · skip
                refine w_iincN (n := 62) (lv' := [(3, .int (nI (q + 1))), (0, .ref (gb_ad G 19)), (1, .int (nI (c))), (2, .int (nI (w)))]) O dX0_judge_59 rfl (by decide) rfl rfl ?_
                refine w_goto (tgt := 30) O dX0_judge_62 (by decide) ?_
                refine w_lv (lv2 := [(0, .ref (gb_ad G 19)), (1, .int (nI (c))), (2, .int (nI (w))), (3, .int (nI (q + 1)))]) [1, 2, 3, 0] rfl ?_
                exact ih_JB _ (by omega) (q + 1) rfl (by omega) (by rw [sAll, hall]; simp; rw [htap _]; exact c_13)
              · skip
                refine w_vret O dX0_judge_58 ?_
                have hF : fitB T st sf sn c = false := by unfold fitB; exact sAll_no (i := q) (by simp; rw [htap _]; exact c_13) (by omega)
                exact hQ _ _ _ _ _ _ ⟨hG.1, hG.2.1, hG.2.2.1, hG.2.2.2.1, hG.2.2.2.2.1, hG.2.2.2.2.2.1, hG.2.2.2.2.2.2.1, hG.2.2.2.2.2.2.2.1, hG.2.2.2.2.2.2.2.2.1, hG.2.2.2.2.2.2.2.2.2.1, hG.2.2.2.2.2.2.2.2.2.2⟩ (fold_no hfold hF) sm.rf
        refine w_lv (lv2 := [(0, .ref (gb_ad G 19)), (1, .int (nI (c))), (2, .int (nI (w))), (3, .int (nI 0))]) [1, 2, 3, 0] rfl ?_
        exact JB _ 0 rfl (Nat.zero_le _) rfl
      · skip
        have hb1 := gMet_le ok hdl (m := i) (g := T.2.2.2.1) ok.1
        have hb2 := ok.2.2.1 i (by omega)
        have hb3 := ok.2.2.2.2.2
        refine w_iload_n (n := 10) O dX0_judge_9 rfl rfl rfl ?_
        refine w_iconst (n := 11) O dX0_judge_10 (v := (nI 0)) (by decide) rfl ?_
        refine w_aload_n (n := 12) O dX0_judge_11 rfl rfl rfl ?_
        refine w_getf (n := 15) O 12 dX0_judge_12 (by omega) hG.1 rfl (by decide) uX0 uf_X0_49 rfl rfl ?_
        refine w_iload_n (n := 16) O dX0_judge_15 rfl rfl rfl ?_
        refine w_ialdA (n := 17) O dX0_judge_16 hW.2.1 (by omega) hG.2.2.2.2.2.2.2.2.2.2 (by omega) (by decide) rfl ?_
        refine w_mmax (n := 20) O dX0_judge_17 ul_X0_73 ux_static_max ui_java_lang_Math ux_code_max (by omega) (Nat.le_of_ble_eq_true rfl) rfl ?_
        refine w_top (nI (gMet T (dig T.2.2.2.1 c) T.2.2.2.1 i + T.2.1 i - T.2.2.1 i)) (by rw [hmid.2 i (by omega)]; exact nI_max0 (by omega) (by omega)) ?_
        refine w_iaddN (n := 21) O dX0_judge_20 rfl ?_
        refine w_istore_n (n := 22) (lv' := [(2, .int (nI ((w + (gMet T (dig T.2.2.2.1 c) T.2.2.2.1 i + T.2.1 i - T.2.2.1 i))))), (0, .ref (gb_ad G 19)), (1, .int (nI (c))), (3, .int (nI (i)))]) O dX0_judge_21 rfl (by decide) rfl rfl ?_
        refine w_iincN (n := 25) (lv' := [(3, .int (nI (i + 1))), (2, .int (nI ((w + (gMet T (dig T.2.2.2.1 c) T.2.2.2.1 i + T.2.1 i - T.2.2.1 i))))), (0, .ref (gb_ad G 19)), (1, .int (nI (c)))]) O dX0_judge_22 rfl (by decide) rfl rfl ?_
        refine w_goto (tgt := 4) O dX0_judge_25 (by decide) ?_
        refine w_lv (lv2 := [(0, .ref (gb_ad G 19)), (1, .int (nI (c))), (2, .int (nI ((w + (gMet T (dig T.2.2.2.1 c) T.2.2.2.1 i + T.2.1 i - T.2.2.1 i))))), (3, .int (nI (i + 1)))]) [2, 3, 1, 0] rfl ?_
        exact ih_JA _ (by omega) (i + 1) ((w + (gMet T (dig T.2.2.2.1 c) T.2.2.2.1 i + T.2.1 i - T.2.2.1 i))) rfl (by omega) (by simp only [sSum, hw])
  refine w_lv (lv2 := [(0, .ref (gb_ad G 19)), (1, .int (nI (c))), (2, .int (nI 0)), (3, .int (nI 0))]) [2, 3, 1, 0] rfl ?_
  exact JA _ 0 0 rfl (by omega) rfl
