set_option maxRecDepth 100000 in
set_option maxHeartbeats 4000000 in
theorem f_X0_figureAt {G : gb_G} (hW : gW G) {Q : Option Value → gb_M → Prop} {mM : gb_M} {st sf : Nat → Nat} {sn ft : Nat} {ln : Option Nat} {lo hi le gi mo gu : Nat → Nat} {ts am : Nat → Int32} {gv : Nat} {tl : Bool} (hG : isG G mM st sf sn ft ln lo hi le gi mo gu ts am gv tl) {i w s : Nat} (hi8 : i ≤ 8) (hts : ts (i % 3) = nI s) (hs : s ≤ 1000) (hw : w ≤ 1000) (hQ : Q (some (.int (nI ((s + i * w) % 10)))) mM) : Fn G 0 yX0_figureAt cX0_figureAt 3 (some .int) [.ref (gb_ad G 19), .int (nI (i)), .int (nI (w))] mM Q := by
  have hN := hW.2.2.1
  refine Fn.of hW.1 [(0, .ref (gb_ad G 19)), (1, .int (nI (i))), (2, .int (nI (w)))] (by decide) (Nat.le_of_ble_eq_true rfl) rfl ?_
  intro X O
  have hiw : i * w ≤ 8000 := Nat.le_trans (Nat.mul_le_mul hi8 hw) (by decide)
  refine w_aload_n (n := 1) O dX0_figureAt_0 rfl rfl rfl ?_
  refine w_getf (n := 4) O 11 dX0_figureAt_1 (by omega) hG.1 rfl (by decide) uX0 uf_X0_46 rfl rfl ?_
  refine w_iload_n (n := 5) O dX0_figureAt_4 rfl rfl rfl ?_
  refine w_iconst (n := 6) O dX0_figureAt_5 (v := (nI 3)) (by decide) rfl ?_
  refine w_iremN (n := 7) O dX0_figureAt_6 (by omega) (by omega) (by omega) rfl ?_
  refine w_ialdA (n := 8) O dX0_figureAt_7 hW.2.1 (by omega) hG.2.2.2.2.2.2.2.2.2.1 (by omega) (by decide) rfl ?_
  refine w_top (nI s) hts ?_
  refine w_iload_n (n := 9) O dX0_figureAt_8 rfl rfl rfl ?_
  refine w_iload_n (n := 10) O dX0_figureAt_9 rfl rfl rfl ?_
  refine w_imulN (n := 11) O dX0_figureAt_10 rfl ?_
  refine w_iaddN (n := 12) O dX0_figureAt_11 rfl ?_
  refine w_bipush (n := 14) O dX0_figureAt_12 (v := (nI 10)) (by decide) rfl ?_
  refine w_iremN (n := 15) O dX0_figureAt_14 (by omega) (by omega) (by omega) rfl ?_
  refine w_iret O dX0_figureAt_15 ?_
  exact hQ
set_option maxRecDepth 100000 in
set_option maxHeartbeats 4000000 in
theorem f_X0_worstLeft {G : gb_G} (hW : gW G) {Q : Option Value → gb_M → Prop} {mM : gb_M} {st sf : Nat → Nat} {sn ft : Nat} {ln : Option Nat} {lo hi le gi mo gu : Nat → Nat} {ts am : Nat → Int32} {gv : Nat} {tl : Bool} (hG : isG G mM st sf sn ft ln lo hi le gi mo gu ts am gv tl) {i : Nat} (hi8 : i ≤ 8) (hle : ∀ k, k < 90 → le k ≤ 10000) (hQ : Q (some (.int (nI (sMaxv (fun v => le (i * 10 + v)) 10)))) mM) : Fn G 1 yX0_worstLeft cX0_worstLeft 4 (some .int) [.ref (gb_ad G 19), .int (nI (i))] mM Q := by
  have hN := hW.2.2.1
  refine Fn.of hW.1 [(0, .ref (gb_ad G 19)), (1, .int (nI (i)))] (by decide) (Nat.le_of_ble_eq_true rfl) rfl ?_
  intro X O
  refine w_iconst (n := 1) O dX0_worstLeft_0 (v := (nI 0)) (by decide) rfl ?_
  refine w_istore_n (n := 2) (lv' := [(2, .int (nI 0)), (0, .ref (gb_ad G 19)), (1, .int (nI (i)))]) O dX0_worstLeft_1 rfl (by decide) rfl rfl ?_
  refine w_iconst (n := 3) O dX0_worstLeft_2 (v := (nI 0)) (by decide) rfl ?_
  refine w_istore_n (n := 4) (lv' := [(3, .int (nI 0)), (2, .int (nI 0)), (0, .ref (gb_ad G 19)), (1, .int (nI (i)))]) O dX0_worstLeft_3 rfl (by decide) rfl rfl ?_
  have LW : ∀ (k : Nat) (k2 c : Nat), 10 - k2 = k → k2 ≤ 10 → c = sMaxv (fun v => le (i * 10 + v)) k2 → Wm G X 4 Q 4 [(0, .ref (gb_ad G 19)), (1, .int (nI (i))), (2, .int (nI (c))), (3, .int (nI (k2)))] [] mM := by
    intro k
    induction k using Nat.strongRecOn with
    | ind k ih_LW =>
      intro k2 c hk hk2 hc
      have hcl : c ≤ 10000 := by rw [hc]; exact sMaxv_le (fun v hv => hle _ (by omega))
      refine w_iload_n (n := 5) O dX0_worstLeft_4 rfl rfl rfl ?_
      refine w_bipush (n := 7) O dX0_worstLeft_5 (v := (nI 10)) (by decide) rfl ?_
      refine w_icmp_geN (n := 10) (tgt := 32) O dX0_worstLeft_7 (by omega) (by omega) (by decide) rfl (fun c_1 => ?_) (fun c_1 => ?_)
      · skip
        refine w_iload_n (n := 33) O dX0_worstLeft_32 rfl rfl rfl ?_
        refine w_iret O dX0_worstLeft_33 ?_
        have ek : k2 = 10 := by omega
        subst ek
        rw [← hc] at hQ
        exact hQ
      · skip
        have hl1 := hle (i * 10 + k2) (by omega)
        refine w_iload_n (n := 11) O dX0_worstLeft_10 rfl rfl rfl ?_
        refine w_aload_n (n := 12) O dX0_worstLeft_11 rfl rfl rfl ?_
        refine w_getf (n := 15) O 7 dX0_worstLeft_12 (by omega) hG.1 rfl (by decide) uX0 uf_X0_34 rfl rfl ?_
        refine w_iload_n (n := 16) O dX0_worstLeft_15 rfl rfl rfl ?_
        refine w_bipush (n := 18) O dX0_worstLeft_16 (v := (nI 10)) (by decide) rfl ?_
        refine w_imulN (n := 19) O dX0_worstLeft_18 rfl ?_
        refine w_iload_n (n := 20) O dX0_worstLeft_19 rfl rfl rfl ?_
        refine w_iaddN (n := 21) O dX0_worstLeft_20 rfl ?_
        refine w_ialdN (n := 22) O dX0_worstLeft_21 hW.2.1 (by omega) hG.2.2.2.2.2.1 (by omega) (by decide) rfl ?_
        refine w_mmax (n := 25) O dX0_worstLeft_22 ul_X0_73 ux_static_max ui_java_lang_Math ux_code_max (by omega) (Nat.le_of_ble_eq_true rfl) rfl ?_
        refine w_top (nI (max (c) (le (((i * 10) + k2))))) (nI_maxN (by omega) (by omega)) ?_
        refine w_istore_n (n := 26) (lv' := [(2, .int (nI (max (c) (le (((i * 10) + k2)))))), (0, .ref (gb_ad G 19)), (1, .int (nI (i))), (3, .int (nI (k2)))]) O dX0_worstLeft_25 rfl (by decide) rfl rfl ?_
        refine w_iincN (n := 29) (lv' := [(3, .int (nI (k2 + 1))), (2, .int (nI (max (c) (le (((i * 10) + k2)))))), (0, .ref (gb_ad G 19)), (1, .int (nI (i)))]) O dX0_worstLeft_26 rfl (by decide) rfl rfl ?_
        refine w_goto (tgt := 4) O dX0_worstLeft_29 (by decide) ?_
        refine w_lv (lv2 := [(0, .ref (gb_ad G 19)), (1, .int (nI (i))), (2, .int (nI (max (c) (le (((i * 10) + k2)))))), (3, .int (nI (k2 + 1)))]) [2, 3, 1, 0] rfl ?_
        exact ih_LW _ (by omega) (k2 + 1) (max (c) (le (((i * 10) + k2)))) rfl (by omega) (by simp only [sMaxv, hc])
  refine w_lv (lv2 := [(0, .ref (gb_ad G 19)), (1, .int (nI (i))), (2, .int (nI 0)), (3, .int (nI 0))]) [2, 3, 1, 0] rfl ?_
  exact LW _ 0 0 rfl (by omega) rfl
set_option maxRecDepth 100000 in
set_option maxHeartbeats 4000000 in
theorem f_X0_giveMore {G : gb_G} (hW : gW G) {Q : Option Value → gb_M → Prop} {mM : gb_M} {st sf : Nat → Nat} {sn ft : Nat} {ln : Option Nat} {lo hi le gi mo gu : Nat → Nat} {ts am : Nat → Int32} {gv : Nat} {tl : Bool} (hG : isG G mM st sf sn ft ln lo hi le gi mo gu ts am gv tl) {g : Nat} {x : Int32} (hg : g < 4) (hmo : mo g < 4) (hQ : ∀ M', isG G M' st sf sn ft ln lo hi le gi mo gu (fun r => ts r + x * nI (1 + (r + g) % 3)) (upd am (mo g) (am (mo g) + x)) gv tl → sm mM M' 19 29 → Q none M') : Fn G 1 yX0_giveMore cX0_giveMore 4 none [.ref (gb_ad G 19), .int (nI (g)), .int (x)] mM Q := by
  have hN := hW.2.2.1
  refine Fn.of hW.1 [(0, .ref (gb_ad G 19)), (1, .int (nI (g))), (2, .int (x))] (by decide) (Nat.le_of_ble_eq_true rfl) rfl ?_
  intro X O
  have hmo3 := hmo
  refine w_aload_n (n := 1) O dX0_giveMore_0 rfl rfl rfl ?_
  refine w_getf (n := 4) O 12 dX0_giveMore_1 (by omega) hG.1 rfl (by decide) uX0 uf_X0_49 rfl rfl ?_
  refine w_aload_n (n := 5) O dX0_giveMore_4 rfl rfl rfl ?_
  refine w_getf (n := 8) O 9 dX0_giveMore_5 (by omega) hG.1 rfl (by decide) uX0 uf_X0_40 rfl rfl ?_
  refine w_iload_n (n := 9) O dX0_giveMore_8 rfl rfl rfl ?_
  refine w_ialdN (n := 10) O dX0_giveMore_9 hW.2.1 (by omega) hG.2.2.2.2.2.2.2.1 (by omega) (by decide) rfl ?_
  refine w_dup2 (n := 11) O dX0_giveMore_10 rfl rfl rfl ?_
  refine w_ialdA (n := 12) O dX0_giveMore_11 hW.2.1 (by omega) hG.2.2.2.2.2.2.2.2.2.2 (by omega) (by decide) rfl ?_
  refine w_iload_n (n := 13) O dX0_giveMore_12 rfl rfl rfl ?_
  refine w_iadd (n := 14) O dX0_giveMore_13 rfl ?_
  refine w_iastA (n := 15) O dX0_giveMore_14 hW.2.1 (by omega) hG.2.2.2.2.2.2.2.2.2.2 (by omega) (by decide) rfl ?_
  refine w_iconst (n := 16) O dX0_giveMore_15 (v := (nI 0)) (by decide) rfl ?_
  refine w_istore_n (n := 17) (lv' := [(3, .int (nI 0)), (0, .ref (gb_ad G 19)), (1, .int (nI (g))), (2, .int (x))]) O dX0_giveMore_16 rfl (by decide) rfl rfl ?_
  have LV : ∀ (k : Nat) (r2 : Nat) (m1 : gb_M), 3 - r2 = k → r2 ≤ 3 → isG G m1 st sf sn ft ln lo hi le gi mo gu (fun r => if r < r2 then ts r + x * nI (1 + (r + g) % 3) else ts r) (upd am (mo g) (am (mo g) + x)) gv tl → sm mM m1 19 29 → Wm G X 4 Q 17 [(0, .ref (gb_ad G 19)), (1, .int (nI (g))), (2, .int (x)), (3, .int (nI (r2)))] [] m1 := by
    intro k
    induction k using Nat.strongRecOn with
    | ind k ih_LV =>
      intro r2 m1 hk hr2 hG1 hs1
      refine w_iload_n (n := 18) O dX0_giveMore_17 rfl rfl rfl ?_
      refine w_iconst (n := 19) O dX0_giveMore_18 (v := (nI 3)) (by decide) rfl ?_
      refine w_icmp_geN (n := 22) (tgt := 44) O dX0_giveMore_19 (by omega) (by omega) (by decide) rfl (fun c_1 => ?_) (fun c_1 => ?_)
      · skip
        have e3 : r2 = 3 := by omega
        subst e3
        refine Wm.cells (arr_same (a := 28) (z := 3) (cA := gI G) (r := fun r => if r < 3 then ts r + x * nI (1 + (r + g) % 3) else ts r) (fun r => ts r + x * nI (1 + (r + g) % 3)) hG1.2.2.2.2.2.2.2.2.2.1 (fun j hj => if_pos hj)) ?_
        refine w_vret O dX0_giveMore_44 ?_
        exact hQ _ ⟨((va_up_ne _ _ (by decide)).trans hG1.1), ((va_up_ne _ _ (by decide)).trans hG1.2.1), ((va_up_ne _ _ (by decide)).trans hG1.2.2.1), ((va_up_ne _ _ (by decide)).trans hG1.2.2.2.1), ((va_up_ne _ _ (by decide)).trans hG1.2.2.2.2.1), ((va_up_ne _ _ (by decide)).trans hG1.2.2.2.2.2.1), ((va_up_ne _ _ (by decide)).trans hG1.2.2.2.2.2.2.1), ((va_up_ne _ _ (by decide)).trans hG1.2.2.2.2.2.2.2.1), ((va_up_ne _ _ (by decide)).trans hG1.2.2.2.2.2.2.2.2.1), (va_up_self _ _ _), ((va_up_ne _ _ (by decide)).trans hG1.2.2.2.2.2.2.2.2.2.2)⟩ (hs1.up (by omega) (by omega))
      · skip
        refine w_aload_n (n := 23) O dX0_giveMore_22 rfl rfl rfl ?_
        refine w_getf (n := 26) O 11 dX0_giveMore_23 (by omega) hG1.1 rfl (by decide) uX0 uf_X0_46 rfl rfl ?_
        refine w_iload_n (n := 27) O dX0_giveMore_26 rfl rfl rfl ?_
        refine w_dup2 (n := 28) O dX0_giveMore_27 rfl rfl rfl ?_
        refine w_ialdA (n := 29) O dX0_giveMore_28 hW.2.1 (by omega) hG1.2.2.2.2.2.2.2.2.2.1 (by omega) (by decide) rfl ?_
        refine w_iload_n (n := 30) O dX0_giveMore_29 rfl rfl rfl ?_
        refine w_iload_n (n := 31) O dX0_giveMore_30 rfl rfl rfl ?_
        refine w_iload_n (n := 32) O dX0_giveMore_31 rfl rfl rfl ?_
        refine w_cN (n := 35) (ro := some (.int (nI (1 + (r2 + g) % 3)))) (R := fun mM' => m1 = mM') (st := [.int (x), .int ((fun r => if r < r2 then ts r + x * nI (1 + (r + g) % 3) else ts r) (r2)), .int (nI (r2)), .ref (gb_ad G 28)]) (st1 := [.int (nI (1 + (r2 + g) % 3)), .int (x), .int ((fun r => if r < r2 then ts r + x * nI (1 + (r + g) % 3) else ts r) (r2)), .int (nI (r2)), .ref (gb_ad G 28)]) (As := [.int (nI (r2)), .int (nI (g))]) O dX0_giveMore_32 (gz_NW2 hW O) um_X6_tapFactor (f_X6_tapFactor hW (by omega) (by omega) ⟨rfl, rfl⟩) rfl rfl rfl (by decide) (Nat.le_of_ble_eq_true rfl) rfl (fun mhM_2 hM_2 => ?_)
        subst hM_2
        refine w_imul (n := 36) O dX0_giveMore_35 rfl ?_
        refine w_iadd (n := 37) O dX0_giveMore_36 rfl ?_
        refine w_top (ts r2 + x * nI (1 + (r2 + g) % 3)) (by simp only [Nat.lt_irrefl, if_false]) ?_
        refine w_iastA (n := 38) O dX0_giveMore_37 hW.2.1 (by omega) hG1.2.2.2.2.2.2.2.2.2.1 (by omega) (by decide) rfl ?_
        refine w_iincN (n := 41) (lv' := [(3, .int (nI (r2 + 1))), (0, .ref (gb_ad G 19)), (1, .int (nI (g))), (2, .int (x))]) O dX0_giveMore_38 rfl (by decide) rfl rfl ?_
        refine w_goto (tgt := 17) O dX0_giveMore_41 (by decide) ?_
        refine w_lv (lv2 := [(0, .ref (gb_ad G 19)), (1, .int (nI (g))), (2, .int (x)), (3, .int (nI (r2 + 1)))]) [1, 2, 3, 0] rfl ?_
        exact ih_LV _ (by omega) (r2 + 1) _ rfl (by omega) (by rw [← up_fillA (fun r => ts r + x * nI (1 + (r + g) % 3)) ts r2]; exact ⟨((va_up_ne _ _ (by decide)).trans hG1.1), ((va_up_ne _ _ (by decide)).trans hG1.2.1), ((va_up_ne _ _ (by decide)).trans hG1.2.2.1), ((va_up_ne _ _ (by decide)).trans hG1.2.2.2.1), ((va_up_ne _ _ (by decide)).trans hG1.2.2.2.2.1), ((va_up_ne _ _ (by decide)).trans hG1.2.2.2.2.2.1), ((va_up_ne _ _ (by decide)).trans hG1.2.2.2.2.2.2.1), ((va_up_ne _ _ (by decide)).trans hG1.2.2.2.2.2.2.2.1), ((va_up_ne _ _ (by decide)).trans hG1.2.2.2.2.2.2.2.2.1), (va_up_self _ _ _), ((va_up_ne _ _ (by decide)).trans hG1.2.2.2.2.2.2.2.2.2.2)⟩) (hs1.up (by omega) (by omega))
  refine w_lv (lv2 := [(0, .ref (gb_ad G 19)), (1, .int (nI (g))), (2, .int (x)), (3, .int (nI 0))]) [1, 2, 3, 0] rfl ?_
  exact LV _ 0 _ rfl (by omega) (by simpa using (show isG G _ st sf sn ft ln lo hi le gi mo gu ts (upd am (mo g) (am (mo g) + x)) gv tl from ⟨((va_up_ne _ _ (by decide)).trans hG.1), ((va_up_ne _ _ (by decide)).trans hG.2.1), ((va_up_ne _ _ (by decide)).trans hG.2.2.1), ((va_up_ne _ _ (by decide)).trans hG.2.2.2.1), ((va_up_ne _ _ (by decide)).trans hG.2.2.2.2.1), ((va_up_ne _ _ (by decide)).trans hG.2.2.2.2.2.1), ((va_up_ne _ _ (by decide)).trans hG.2.2.2.2.2.2.1), ((va_up_ne _ _ (by decide)).trans hG.2.2.2.2.2.2.2.1), ((va_up_ne _ _ (by decide)).trans hG.2.2.2.2.2.2.2.2.1), ((va_up_ne _ _ (by decide)).trans hG.2.2.2.2.2.2.2.2.2.1), (va_up_self _ _ _)⟩)) (sm.rf.up (by omega) (by omega))
