def s_txT (T : Tw) (bs : Nat → Nat) (ln : Nat) : Tw := if (tx bs ln).1.1 = 0 then (tx bs ln).2.2.1 else T
def s_txK (kp : Nat → Bool) (bs : Nat → Nat) (ln : Nat) : Nat → Bool := if (tx bs ln).1.1 = 0 then upK (upK kp 0 false) 1 false else kp
def s_txS (sn : Nat) (bs : Nat → Nat) (ln : Nat) : Nat := if (tx bs ln).1.1 = 0 then 0 else sn
set_option maxRecDepth 100000 in
set_option maxHeartbeats 4000000 in
theorem f_X6_text {G : gb_G} (hW : gW G) {Q : Option Value → gb_M → Prop} {mM : gb_M} {T : Tw} {im : Nat → Tw} {kp : Nat → Bool} {bs : Nat → Nat} {ln fa : Nat} {st sf : Nat → Nat} {sn : Nat} {sh : Sh} {sc : Nat → Nat → Int32} {tn : Nat} (hC : isCW G mM T im kp bs ln fa st sf sn sh sc tn)  (hQ : ∀ M', isCW G M' (s_txT T bs ln) im (s_txK kp bs ln) bs 0 ((tx bs ln).1.1) st sf (s_txS sn bs ln) sh sc tn → sm mM M' 0 48 → Q (some (.int (a_text bs ln))) M') : Fn G 10 yX6_text cX6_text 3 (some .int) [.ref (gb_ad G 0)] mM Q := by
  obtain ⟨hB, hT, hok, hU, hMx, hP, hS, hG, hI, hK, hH⟩ := hC
  have ok := hok.1
  have hn4 := ok.1
  have hst9 := hok.2.1
  have hln := hok.2.2.2.1
  have hsn6 := hok.2.2.2.2.2.2.1
  obtain ⟨pl, so, sa, nu, hP, hPb⟩ := hP
  obtain ⟨fp, s1, s2, s3, s4, V, hS, hV⟩ := hS
  obtain ⟨ft, ln2, lo, hi, le, gi, mo, gu, ts, am2, gv, tl, hG⟩ := hG
  have hN := hW.2.2.1
  refine Fn.of hW.1 [(0, .ref (gb_ad G 0))] (by decide) (Nat.le_of_ble_eq_true rfl) rfl ?_
  intro X O
  refine w_aload_n (n := 1) O dX6_text_0 rfl rfl rfl ?_
  refine w_getf (n := 4) O 4 dX6_text_1 (by omega) hB rfl (by decide) uX6 uf_X6_36 rfl rfl ?_
  refine w_aload_n (n := 5) O dX6_text_4 rfl rfl rfl ?_
  refine w_getf (n := 8) O 3 dX6_text_5 (by omega) hB rfl (by decide) uX6 uf_X6_29 rfl rfl ?_
  refine w_cV (n := 11) (ro := some (.int (a_text bs ln))) (R := fun mM' => TxP G mM' bs ln ∧ sm mM mM' 12 18) (st := []) (st1 := [.int (a_text bs ln)]) (As := [.ref (gb_ad G 12)]) (b := 14) O dX6_text_8 ul_X6_77 um_X2_readText (f_X2_readText hW ⟨hP.1, hP.2⟩ hln hok.2.2.2.2.1 hPb.1 hPb.2 hS ⟨hV.1, hV.2.1, hV.2.2.1, hV.2.2.2⟩ (fun M' h1 h2 => ⟨rfl, h1, h2⟩)) rfl (by omega) hS rfl rfl rfl rfl (by omega) (Nat.le_of_ble_eq_true rfl) rfl (fun mhM_1 hM_1 => ?_)
  obtain ⟨⟨fp9, Y, pl9, so9, sa9, nu9, hC9, hV9, hP9, hb9, hle9, hok9⟩, hs9⟩ := hM_1
  refine w_istore_n (n := 12) (lv' := [(1, .int (a_text bs ln)), (0, .ref (gb_ad G 0))]) O dX6_text_11 rfl (by decide) rfl rfl ?_
  refine w_aload_n (n := 13) O dX6_text_12 rfl rfl rfl ?_
  refine w_getf (n := 16) O 3 dX6_text_13 (by omega) ((hs9 (0) (by omega)).trans hB) rfl (by decide) uX6 uf_X6_29 rfl rfl ?_
  refine w_iconst (n := 17) O dX6_text_16 (v := (nI 0)) (by decide) rfl ?_
  refine w_putf (n := 20) (fs' := [.ref (gb_ad G 13), .int (nI 0), .int (nI (pl9)), .int (nI (so9)), .int (nI (sa9)), .int (nI (nu9))]) O 1 dX6_text_17 (by omega) hP9.1 rfl (by decide) uX4 uf_X6_70 tyX4 tyX4_ok nmX4 rfl rfl rfl (Nat.le_of_ble_eq_true rfl) rfl rfl ?_
  refine w_aload_n (n := 21) O dX6_text_20 rfl rfl rfl ?_
  refine w_getf (n := 24) O 4 dX6_text_21 (by omega) ((va_up_ne _ _ (by decide)).trans ((hs9 (0) (by omega)).trans hB)) rfl (by decide) uX6 uf_X6_36 rfl rfl ?_
  refine w_getf (n := 27) O 1 dX6_text_24 (by omega) ((va_up_ne _ _ (by decide)).trans hC9) rfl (by decide) uX2 uf_X6_81 rfl rfl ?_
  refine w_if_eqN (n := 30) (tgt := 32) O dX6_text_27 (by omega) (by decide) rfl (fun c_2 => ?_) (fun c_2 => ?_)
  · skip
    refine w_aload_n (n := 33) O dX6_text_32 rfl rfl rfl ?_
    refine w_getf (n := 36) O 0 dX6_text_33 (by omega) ((va_up_ne _ _ (by decide)).trans ((hs9 (0) (by omega)).trans hB)) rfl (by decide) uX6 uf_X6_10 rfl rfl ?_
    refine w_aload_n (n := 37) O dX6_text_36 rfl rfl rfl ?_
    refine w_getf (n := 40) O 4 dX6_text_37 (by omega) ((va_up_ne _ _ (by decide)).trans ((hs9 (0) (by omega)).trans hB)) rfl (by decide) uX6 uf_X6_36 rfl rfl ?_
    refine w_getf (n := 43) O 0 dX6_text_40 (by omega) ((va_up_ne _ _ (by decide)).trans hC9) rfl (by decide) uX2 uf_X6_84 rfl rfl ?_
    refine w_cV (n := 46) (ro := none) (R := fun mM' => isT G mM' (1) Y.1 ∧ sm (va_up mhM_1 (12) (.inr (4, [.ref (gb_ad G 13), .int (nI 0), .int (nI (pl9)), .int (nI (so9)), .int (nI (sa9)), .int (nI (nu9))]))) mM' (1) (1 + 3)) (st := []) (st1 := []) (As := [.ref (gb_ad G 15)]) (b := 1) O dX6_text_43 ul_X6_87 um_X5_becomes (f_X5_becomes (T := T) (U := Y.1) hW ⟨((va_up_ne _ _ (by decide)).trans ((hs9 (1) (by omega)).trans hT.1)), ((va_up_ne _ _ (by decide)).trans ((hs9 (2) (by omega)).trans hT.2.1)), ((va_up_ne _ _ (by decide)).trans ((hs9 (3) (by omega)).trans hT.2.2.1)), ((va_up_ne _ _ (by decide)).trans ((hs9 (4) (by omega)).trans hT.2.2.2))⟩ (by omega) ⟨((va_up_ne _ _ (by decide)).trans hV9.1), ((va_up_ne _ _ (by decide)).trans hV9.2.1), ((va_up_ne _ _ (by decide)).trans hV9.2.2.1), ((va_up_ne _ _ (by decide)).trans hV9.2.2.2)⟩ (by omega) (by omega) (fun M' h1 h2 => ⟨rfl, h1, h2⟩)) rfl (by omega) ((va_up_ne _ _ (by decide)).trans ((hs9 (1) (by omega)).trans hT.1)) rfl rfl rfl rfl (by omega) (Nat.le_of_ble_eq_true rfl) rfl (fun mhM_3 hM_3 => ?_)
    obtain ⟨hThM_3, hshM_3⟩ := hM_3
    refine w_aload_n (n := 47) O dX6_text_46 rfl rfl rfl ?_
    refine w_getf (n := 50) O 5 dX6_text_47 (by omega) ((hshM_3 (0) (by omega)).trans ((va_up_ne _ _ (by decide)).trans ((hs9 (0) (by omega)).trans hB))) rfl (by decide) uX6 uf_X6_43 rfl rfl ?_
    refine w_iconst (n := 51) O dX6_text_50 (v := (nI 0)) (by decide) rfl ?_
    refine w_putf (n := 54) (fs' := [.ref (gb_ad G 20), .ref (gb_ad G 21), .int (nI 0), .int (nI (ft)), .int (oI ln2), .ref (gb_ad G 22), .ref (gb_ad G 23), .ref (gb_ad G 24), .ref (gb_ad G 25), .ref (gb_ad G 26), .ref (gb_ad G 27), .ref (gb_ad G 28), .ref (gb_ad G 29), .int (nI (gv)), .int (bI (tl))]) O 2 dX6_text_51 (by omega) ((hshM_3 (19) (by omega)).trans ((va_up_ne _ _ (by decide)).trans ((hs9 (19) (by omega)).trans hG.1))) rfl (by decide) uX0 uf_X6_91 tyX0 tyX0_ok nmX0 rfl rfl rfl (Nat.le_of_ble_eq_true rfl) rfl rfl ?_
    refine w_iconst (n := 55) O dX6_text_54 (v := (nI 0)) (by decide) rfl ?_
    refine w_istore_n (n := 56) (lv' := [(2, .int (nI 0)), (1, .int (a_text bs ln)), (0, .ref (gb_ad G 0))]) O dX6_text_55 rfl (by decide) rfl rfl ?_
    refine w_iload_n (n := 57) O dX6_text_56 rfl rfl rfl ?_
    refine w_iconst (n := 58) O dX6_text_57 (v := (nI 2)) (by decide) rfl ?_
    refine w_icmp_geN (n := 61) (tgt := 74) O dX6_text_58 (by omega) (by omega) (by decide) rfl (fun c_4 => absurd c_4 (by decide)) (fun c_4 => ?_)
    refine w_aload_n (n := 62) O dX6_text_61 rfl rfl rfl ?_
    refine w_getf (n := 65) O 7 dX6_text_62 (by omega) ((va_up_ne _ _ (by decide)).trans ((hshM_3 (0) (by omega)).trans ((va_up_ne _ _ (by decide)).trans ((hs9 (0) (by omega)).trans hB)))) rfl (by decide) uX6 uf_X6_51 rfl rfl ?_
    refine w_iload_n (n := 66) O dX6_text_65 rfl rfl rfl ?_
    refine w_iconst (n := 67) O dX6_text_66 (v := (nI 0)) (by decide) rfl ?_
    refine w_zastB (n := 68) (v := false) O dX6_text_67 hW.2.1 (by omega) ((va_up_ne _ _ (by decide)).trans ((hshM_3 (39) (by omega)).trans ((va_up_ne _ _ (by decide)).trans ((hs9 (39) (by omega)).trans hK)))) (by decide) (by omega) (by decide) rfl ?_
    refine w_iincN (n := 71) (lv' := [(2, .int (nI (0 + 1))), (1, .int (a_text bs ln)), (0, .ref (gb_ad G 0))]) O dX6_text_68 rfl (by decide) rfl rfl ?_
    refine w_goto (tgt := 56) O dX6_text_71 (by decide) ?_
    refine w_iload_n (n := 57) O dX6_text_56 rfl rfl rfl ?_
    refine w_iconst (n := 58) O dX6_text_57 (v := (nI 2)) (by decide) rfl ?_
    refine w_icmp_geN (n := 61) (tgt := 74) O dX6_text_58 (by omega) (by omega) (by decide) rfl (fun c_5 => absurd c_5 (by decide)) (fun c_5 => ?_)
    refine w_aload_n (n := 62) O dX6_text_61 rfl rfl rfl ?_
    refine w_getf (n := 65) O 7 dX6_text_62 (by omega) ((va_up_ne _ _ (by decide)).trans ((va_up_ne _ _ (by decide)).trans ((hshM_3 (0) (by omega)).trans ((va_up_ne _ _ (by decide)).trans ((hs9 (0) (by omega)).trans hB))))) rfl (by decide) uX6 uf_X6_51 rfl rfl ?_
    refine w_iload_n (n := 66) O dX6_text_65 rfl rfl rfl ?_
    refine w_iconst (n := 67) O dX6_text_66 (v := (nI 0)) (by decide) rfl ?_
    refine w_zastB (n := 68) (v := false) O dX6_text_67 hW.2.1 (by omega) (va_up_self _ _ _) (by decide) (by omega) (by decide) rfl ?_
    refine w_iincN (n := 71) (lv' := [(2, .int (nI ((0 + 1) + 1))), (1, .int (a_text bs ln)), (0, .ref (gb_ad G 0))]) O dX6_text_68 rfl (by decide) rfl rfl ?_
    refine w_goto (tgt := 56) O dX6_text_71 (by decide) ?_
    refine w_iload_n (n := 57) O dX6_text_56 rfl rfl rfl ?_
    refine w_iconst (n := 58) O dX6_text_57 (v := (nI 2)) (by decide) rfl ?_
    refine w_icmp_geN (n := 61) (tgt := 74) O dX6_text_58 (by omega) (by omega) (by decide) rfl (fun c_6 => ?_) (fun c_6 => absurd c_6 (by decide))
    refine w_iload_n (n := 75) O dX6_text_74 rfl rfl rfl ?_
    refine w_iret O dX6_text_75 ?_
    have e0 : s_txT T bs ln = Y.1 := (if_pos c_2).trans (hok9 c_2).1.symm
    have e1 : s_txK kp bs ln = upK (upK kp 0 false) 1 false := if_pos c_2
    have e2 : s_txS sn bs ln = 0 := if_pos c_2
    rw [e0, e1, e2] at hQ
    try dsimp only at hQ
    exact hQ _ ⟨((va_up_ne _ _ (by decide)).trans ((va_up_ne _ _ (by decide)).trans ((va_up_ne _ _ (by decide)).trans ((hshM_3 (0) (by omega)).trans ((va_up_ne _ _ (by decide)).trans ((hs9 (0) (by omega)).trans hB)))))), ⟨((va_up_ne _ _ (by decide)).trans ((va_up_ne _ _ (by decide)).trans ((va_up_ne _ _ (by decide)).trans hThM_3.1))), ((va_up_ne _ _ (by decide)).trans ((va_up_ne _ _ (by decide)).trans ((va_up_ne _ _ (by decide)).trans hThM_3.2.1))), ((va_up_ne _ _ (by decide)).trans ((va_up_ne _ _ (by decide)).trans ((va_up_ne _ _ (by decide)).trans hThM_3.2.2.1))), ((va_up_ne _ _ (by decide)).trans ((va_up_ne _ _ (by decide)).trans ((va_up_ne _ _ (by decide)).trans hThM_3.2.2.2)))⟩, ⟨(hok9 c_2).2.1, by rw [(hok9 c_2).2.2.1]; decide, fun k hk => ⟨(hok.2.2.1 k hk).1, (hok.2.2.1 k hk).2.1, fun q => absurd q (by rcases (show k = 0 ∨ k = 1 by omega) with e | e <;> subst e <;> simp [upK])⟩, Nat.zero_le _, fun k hk => absurd hk (Nat.not_lt_zero k), hle9, Nat.zero_le _, fun k hk => absurd hk (Nat.not_lt_zero k), hok.2.2.2.2.2.2.2.2⟩, ((((((hU.kp (kp_sm hs9 (by omega))).kp (kp_up (by omega))).kp (kp_sm hshM_3 (by omega))).kp (kp_up (by omega))).kp (kp_up (by omega))).kp (kp_up (by omega))), ((((((hMx.kp (kp_sm hs9 (by omega))).kp (kp_up (by omega))).kp (kp_sm hshM_3 (by omega))).kp (kp_up (by omega))).kp (kp_up (by omega))).kp (kp_up (by omega))), ⟨_, _, _, _, ⟨((va_up_ne _ _ (by decide)).trans ((va_up_ne _ _ (by decide)).trans ((va_up_ne _ _ (by decide)).trans ((hshM_3 (12) (by omega)).trans (va_up_self _ _ _))))), ((va_up_ne _ _ (by decide)).trans ((va_up_ne _ _ (by decide)).trans ((va_up_ne _ _ (by decide)).trans ((hshM_3 (13) (by omega)).trans ((va_up_ne _ _ (by decide)).trans hP9.2)))))⟩, hb9⟩, ⟨_, _, _, _, _, Y.1, ((va_up_ne _ _ (by decide)).trans ((va_up_ne _ _ (by decide)).trans ((va_up_ne _ _ (by decide)).trans ((hshM_3 (14) (by omega)).trans ((va_up_ne _ _ (by decide)).trans hC9))))), ⟨((va_up_ne _ _ (by decide)).trans ((va_up_ne _ _ (by decide)).trans ((va_up_ne _ _ (by decide)).trans ((hshM_3 (15) (by omega)).trans ((va_up_ne _ _ (by decide)).trans hV9.1))))), ((va_up_ne _ _ (by decide)).trans ((va_up_ne _ _ (by decide)).trans ((va_up_ne _ _ (by decide)).trans ((hshM_3 (16) (by omega)).trans ((va_up_ne _ _ (by decide)).trans hV9.2.1))))), ((va_up_ne _ _ (by decide)).trans ((va_up_ne _ _ (by decide)).trans ((va_up_ne _ _ (by decide)).trans ((hshM_3 (17) (by omega)).trans ((va_up_ne _ _ (by decide)).trans hV9.2.2.1))))), ((va_up_ne _ _ (by decide)).trans ((va_up_ne _ _ (by decide)).trans ((va_up_ne _ _ (by decide)).trans ((hshM_3 (18) (by omega)).trans ((va_up_ne _ _ (by decide)).trans hV9.2.2.2)))))⟩⟩, ⟨_, _, _, _, _, _, _, _, _, _, _, _, ⟨((va_up_ne _ _ (by decide)).trans ((va_up_ne _ _ (by decide)).trans (va_up_self _ _ _))), ((va_up_ne _ _ (by decide)).trans ((va_up_ne _ _ (by decide)).trans ((va_up_ne _ _ (by decide)).trans ((hshM_3 (20) (by omega)).trans ((va_up_ne _ _ (by decide)).trans ((hs9 (20) (by omega)).trans hG.2.1)))))), ((va_up_ne _ _ (by decide)).trans ((va_up_ne _ _ (by decide)).trans ((va_up_ne _ _ (by decide)).trans ((hshM_3 (21) (by omega)).trans ((va_up_ne _ _ (by decide)).trans ((hs9 (21) (by omega)).trans hG.2.2.1)))))), ((va_up_ne _ _ (by decide)).trans ((va_up_ne _ _ (by decide)).trans ((va_up_ne _ _ (by decide)).trans ((hshM_3 (22) (by omega)).trans ((va_up_ne _ _ (by decide)).trans ((hs9 (22) (by omega)).trans hG.2.2.2.1)))))), ((va_up_ne _ _ (by decide)).trans ((va_up_ne _ _ (by decide)).trans ((va_up_ne _ _ (by decide)).trans ((hshM_3 (23) (by omega)).trans ((va_up_ne _ _ (by decide)).trans ((hs9 (23) (by omega)).trans hG.2.2.2.2.1)))))), ((va_up_ne _ _ (by decide)).trans ((va_up_ne _ _ (by decide)).trans ((va_up_ne _ _ (by decide)).trans ((hshM_3 (24) (by omega)).trans ((va_up_ne _ _ (by decide)).trans ((hs9 (24) (by omega)).trans hG.2.2.2.2.2.1)))))), ((va_up_ne _ _ (by decide)).trans ((va_up_ne _ _ (by decide)).trans ((va_up_ne _ _ (by decide)).trans ((hshM_3 (25) (by omega)).trans ((va_up_ne _ _ (by decide)).trans ((hs9 (25) (by omega)).trans hG.2.2.2.2.2.2.1)))))), ((va_up_ne _ _ (by decide)).trans ((va_up_ne _ _ (by decide)).trans ((va_up_ne _ _ (by decide)).trans ((hshM_3 (26) (by omega)).trans ((va_up_ne _ _ (by decide)).trans ((hs9 (26) (by omega)).trans hG.2.2.2.2.2.2.2.1)))))), ((va_up_ne _ _ (by decide)).trans ((va_up_ne _ _ (by decide)).trans ((va_up_ne _ _ (by decide)).trans ((hshM_3 (27) (by omega)).trans ((va_up_ne _ _ (by decide)).trans ((hs9 (27) (by omega)).trans hG.2.2.2.2.2.2.2.2.1)))))), ((va_up_ne _ _ (by decide)).trans ((va_up_ne _ _ (by decide)).trans ((va_up_ne _ _ (by decide)).trans ((hshM_3 (28) (by omega)).trans ((va_up_ne _ _ (by decide)).trans ((hs9 (28) (by omega)).trans hG.2.2.2.2.2.2.2.2.2.1)))))), ((va_up_ne _ _ (by decide)).trans ((va_up_ne _ _ (by decide)).trans ((va_up_ne _ _ (by decide)).trans ((hshM_3 (29) (by omega)).trans ((va_up_ne _ _ (by decide)).trans ((hs9 (29) (by omega)).trans hG.2.2.2.2.2.2.2.2.2.2))))))⟩⟩, ((((((hI.kp (kp_sm hs9 (by omega))).kp (kp_up (by omega))).kp (kp_sm hshM_3 (by omega))).kp (kp_up (by omega))).kp (kp_up (by omega))).kp (kp_up (by omega))), (va_up_self _ _ _), ((((((hH.kp (kp_sm hs9 (by omega))).kp (kp_up (by omega))).kp (kp_sm hshM_3 (by omega))).kp (kp_up (by omega))).kp (kp_up (by omega))).kp (kp_up (by omega)))⟩ ((((((sm.rf.tr (hs9.mono (by omega) (by omega))).up (by omega) (by omega)).tr (hshM_3.mono (by omega) (by omega))).up (by omega) (by omega)).up (by omega) (by omega)).up (by omega) (by omega))
  · skip
    refine w_iload_n (n := 31) O dX6_text_30 rfl rfl rfl ?_
    refine w_iret O dX6_text_31 ?_
    have e0 : s_txT T bs ln = T := if_neg c_2
    have e1 : s_txK kp bs ln = kp := if_neg c_2
    have e2 : s_txS sn bs ln = sn := if_neg c_2
    rw [e0, e1, e2] at hQ
    try dsimp only at hQ
    exact hQ _ ⟨((va_up_ne _ _ (by decide)).trans ((hs9 (0) (by omega)).trans hB)), ⟨((va_up_ne _ _ (by decide)).trans ((hs9 (1) (by omega)).trans hT.1)), ((va_up_ne _ _ (by decide)).trans ((hs9 (2) (by omega)).trans hT.2.1)), ((va_up_ne _ _ (by decide)).trans ((hs9 (3) (by omega)).trans hT.2.2.1)), ((va_up_ne _ _ (by decide)).trans ((hs9 (4) (by omega)).trans hT.2.2.2))⟩, ⟨hok.1, hok.2.1, hok.2.2.1, Nat.zero_le _, fun k hk => absurd hk (Nat.not_lt_zero k), hle9, hok.2.2.2.2.2.2⟩, ((hU.kp (kp_sm hs9 (by omega))).kp (kp_up (by omega))), ((hMx.kp (kp_sm hs9 (by omega))).kp (kp_up (by omega))), ⟨_, _, _, _, ⟨(va_up_self _ _ _), ((va_up_ne _ _ (by decide)).trans hP9.2)⟩, hb9⟩, ⟨_, _, _, _, _, Y.1, ((va_up_ne _ _ (by decide)).trans hC9), ⟨((va_up_ne _ _ (by decide)).trans hV9.1), ((va_up_ne _ _ (by decide)).trans hV9.2.1), ((va_up_ne _ _ (by decide)).trans hV9.2.2.1), ((va_up_ne _ _ (by decide)).trans hV9.2.2.2)⟩⟩, ⟨_, _, _, _, _, _, _, _, _, _, _, _, ⟨((va_up_ne _ _ (by decide)).trans ((hs9 (19) (by omega)).trans hG.1)), ((va_up_ne _ _ (by decide)).trans ((hs9 (20) (by omega)).trans hG.2.1)), ((va_up_ne _ _ (by decide)).trans ((hs9 (21) (by omega)).trans hG.2.2.1)), ((va_up_ne _ _ (by decide)).trans ((hs9 (22) (by omega)).trans hG.2.2.2.1)), ((va_up_ne _ _ (by decide)).trans ((hs9 (23) (by omega)).trans hG.2.2.2.2.1)), ((va_up_ne _ _ (by decide)).trans ((hs9 (24) (by omega)).trans hG.2.2.2.2.2.1)), ((va_up_ne _ _ (by decide)).trans ((hs9 (25) (by omega)).trans hG.2.2.2.2.2.2.1)), ((va_up_ne _ _ (by decide)).trans ((hs9 (26) (by omega)).trans hG.2.2.2.2.2.2.2.1)), ((va_up_ne _ _ (by decide)).trans ((hs9 (27) (by omega)).trans hG.2.2.2.2.2.2.2.2.1)), ((va_up_ne _ _ (by decide)).trans ((hs9 (28) (by omega)).trans hG.2.2.2.2.2.2.2.2.2.1)), ((va_up_ne _ _ (by decide)).trans ((hs9 (29) (by omega)).trans hG.2.2.2.2.2.2.2.2.2.2))⟩⟩, ((hI.kp (kp_sm hs9 (by omega))).kp (kp_up (by omega))), ((va_up_ne _ _ (by decide)).trans ((hs9 (39) (by omega)).trans hK)), ((hH.kp (kp_sm hs9 (by omega))).kp (kp_up (by omega)))⟩ ((sm.rf.tr (hs9.mono (by omega) (by omega))).up (by omega) (by omega))
