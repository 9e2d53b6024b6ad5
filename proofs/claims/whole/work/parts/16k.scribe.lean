set_option maxRecDepth 100000 in
set_option maxHeartbeats 4000000 in
theorem f_X2_begin {G : gb_G} (hW : gW G) {Q : Option Value → gb_M → Prop} {mM : gb_M} {bs : Nat → Nat} {ln pl so sa nu : Nat} (hP : isP G mM bs ln pl so sa nu) {fo fp s1 s2 s3 : Nat} {s4 : Bool} {V : Tw} (hC : isC G mM fo fp s1 s2 s3 s4) (hV : isT G mM 15 V)  (hQ : ∀ M', isP G M' bs ln 0 so sa nu → isC G M' 0 fp 0 0 0 false → isT G M' 15 Z0.1 → sm mM M' 12 18 → Q none M') : Fn G 2 yX2_begin cX2_begin 2 none [.ref (gb_ad G 14), .ref (gb_ad G 12)] mM Q := by
  have hN := hW.2.2.1
  refine Fn.of hW.1 [(0, .ref (gb_ad G 14)), (1, .ref (gb_ad G 12))] (by decide) (Nat.le_of_ble_eq_true rfl) rfl ?_
  intro X O
  refine w_aload_n (n := 1) O dX2_begin_0 rfl rfl rfl ?_
  refine w_cV (n := 4) (ro := none) (R := fun mM' => isP G mM' bs ln 0 so sa nu ∧ sm mM mM' 12 13) (st := []) (st1 := []) (As := []) (b := 12) O dX2_begin_1 ul_X2_64 um_X4_rewind (f_X4_rewind hW ⟨hP.1, hP.2⟩ (fun M' h1 h2 => ⟨rfl, h1, h2⟩)) rfl (by omega) hP.1 rfl rfl rfl rfl (by decide) (Nat.le_of_ble_eq_true rfl) rfl (fun mhM_3 hM_3 => ?_)
  obtain ⟨hP_1, hs_2⟩ := hM_3
  refine w_aload_n (n := 5) O dX2_begin_4 rfl rfl rfl ?_
  refine w_getf (n := 8) O 0 dX2_begin_5 (by omega) ((hs_2 (14) (by omega)).trans hC) rfl (by decide) uX2 uf_X2_12 rfl rfl ?_
  refine w_cV (n := 11) (ro := none) (R := fun mM' => isT G mM' (15) Z0.1 ∧ sm mhM_3 mM' (15) (15 + 3)) (st := []) (st1 := []) (As := []) (b := 15) O dX2_begin_8 ul_X2_67 um_X5_clear (f_X5_clear (T := V) hW ⟨((hs_2 (15) (by omega)).trans hV.1), ((hs_2 (16) (by omega)).trans hV.2.1), ((hs_2 (17) (by omega)).trans hV.2.2.1), ((hs_2 (18) (by omega)).trans hV.2.2.2)⟩ (by omega) (fun M' h1 h2 => ⟨rfl, h1, h2⟩)) rfl (by omega) ((hs_2 (15) (by omega)).trans hV.1) rfl rfl rfl rfl (by omega) (Nat.le_of_ble_eq_true rfl) rfl (fun mhM_4 hM_4 => ?_)
  obtain ⟨hThM_4, hshM_4⟩ := hM_4
  refine w_aload_n (n := 12) O dX2_begin_11 rfl rfl rfl ?_
  refine w_iconst (n := 13) O dX2_begin_12 (v := (nI 0)) (by decide) rfl ?_
  refine w_putf (n := 16) (fs' := [.ref (gb_ad G 15), .int (nI 0), .int (nI (fp)), .int (nI (s1)), .int (nI (s2)), .int (nI (s3)), .int (bI (s4))]) O 1 dX2_begin_13 (by omega) ((hshM_4 (14) (by omega)).trans ((hs_2 (14) (by omega)).trans hC)) rfl (by decide) uX2 uf_X2_18 tyX2 tyX2_ok nmX2 rfl rfl rfl (Nat.le_of_ble_eq_true rfl) rfl rfl ?_
  refine w_aload_n (n := 17) O dX2_begin_16 rfl rfl rfl ?_
  refine w_iconst (n := 18) O dX2_begin_17 (v := (nI 0)) (by decide) rfl ?_
  refine w_putf (n := 21) (fs' := [.ref (gb_ad G 15), .int (nI 0), .int (nI (fp)), .int (nI 0), .int (nI (s2)), .int (nI (s3)), .int (bI (s4))]) O 3 dX2_begin_18 (by omega) (va_up_self _ _ _) rfl (by decide) uX2 uf_X2_25 tyX2 tyX2_ok nmX2 rfl rfl rfl (Nat.le_of_ble_eq_true rfl) rfl rfl ?_
  refine w_aload_n (n := 22) O dX2_begin_21 rfl rfl rfl ?_
  refine w_iconst (n := 23) O dX2_begin_22 (v := (nI 0)) (by decide) rfl ?_
  refine w_putf (n := 26) (fs' := [.ref (gb_ad G 15), .int (nI 0), .int (nI (fp)), .int (nI 0), .int (nI 0), .int (nI (s3)), .int (bI (s4))]) O 4 dX2_begin_23 (by omega) (va_up_self _ _ _) rfl (by decide) uX2 uf_X2_28 tyX2 tyX2_ok nmX2 rfl rfl rfl (Nat.le_of_ble_eq_true rfl) rfl rfl ?_
  refine w_aload_n (n := 27) O dX2_begin_26 rfl rfl rfl ?_
  refine w_iconst (n := 28) O dX2_begin_27 (v := (nI 0)) (by decide) rfl ?_
  refine w_putf (n := 31) (fs' := [.ref (gb_ad G 15), .int (nI 0), .int (nI (fp)), .int (nI 0), .int (nI 0), .int (nI 0), .int (bI (s4))]) O 5 dX2_begin_28 (by omega) (va_up_self _ _ _) rfl (by decide) uX2 uf_X2_31 tyX2 tyX2_ok nmX2 rfl rfl rfl (Nat.le_of_ble_eq_true rfl) rfl rfl ?_
  refine w_aload_n (n := 32) O dX2_begin_31 rfl rfl rfl ?_
  refine w_iconst (n := 33) O dX2_begin_32 (v := (nI 0)) (by decide) rfl ?_
  refine w_top (bI false) (by decide) ?_
  refine w_putf (n := 36) (fs' := [.ref (gb_ad G 15), .int (nI 0), .int (nI (fp)), .int (nI 0), .int (nI 0), .int (nI 0), .int (bI (false))]) O 6 dX2_begin_33 (by omega) (va_up_self _ _ _) rfl (by decide) uX2 uf_X2_34 tyX2 tyX2_ok nmX2 rfl (bI_nar _) (bI_fit _) (Nat.le_of_ble_eq_true rfl) rfl rfl ?_
  refine w_vret O dX2_begin_36 ?_
  exact hQ _ ⟨((va_up_ne _ _ (by decide)).trans ((va_up_ne _ _ (by decide)).trans ((va_up_ne _ _ (by decide)).trans ((va_up_ne _ _ (by decide)).trans ((va_up_ne _ _ (by decide)).trans ((hshM_4 (12) (by omega)).trans hP_1.1)))))), ((va_up_ne _ _ (by decide)).trans ((va_up_ne _ _ (by decide)).trans ((va_up_ne _ _ (by decide)).trans ((va_up_ne _ _ (by decide)).trans ((va_up_ne _ _ (by decide)).trans ((hshM_4 (13) (by omega)).trans hP_1.2))))))⟩ (va_up_self _ _ _) ⟨((va_up_ne _ _ (by decide)).trans ((va_up_ne _ _ (by decide)).trans ((va_up_ne _ _ (by decide)).trans ((va_up_ne _ _ (by decide)).trans ((va_up_ne _ _ (by decide)).trans hThM_4.1))))), ((va_up_ne _ _ (by decide)).trans ((va_up_ne _ _ (by decide)).trans ((va_up_ne _ _ (by decide)).trans ((va_up_ne _ _ (by decide)).trans ((va_up_ne _ _ (by decide)).trans hThM_4.2.1))))), ((va_up_ne _ _ (by decide)).trans ((va_up_ne _ _ (by decide)).trans ((va_up_ne _ _ (by decide)).trans ((va_up_ne _ _ (by decide)).trans ((va_up_ne _ _ (by decide)).trans hThM_4.2.2.1))))), ((va_up_ne _ _ (by decide)).trans ((va_up_ne _ _ (by decide)).trans ((va_up_ne _ _ (by decide)).trans ((va_up_ne _ _ (by decide)).trans ((va_up_ne _ _ (by decide)).trans hThM_4.2.2.2)))))⟩ (((((((sm.rf.tr (hs_2.mono (by omega) (by omega))).tr (hshM_4.mono (by omega) (by omega))).up (by omega) (by omega)).up (by omega) (by omega)).up (by omega) (by omega)).up (by omega) (by omega)).up (by omega) (by omega))
def TxP (G : gb_G) (M : gb_M) (bs : Nat → Nat) (ln : Nat) : Prop :=
  ∃ (fp : Nat) (Y : Sc) (pl so sa nu : Nat), isC G M (tx bs ln).1.1 fp Y.2.1 Y.2.2.1 Y.2.2.2.1 Y.2.2.2.2 ∧ isT G M 15 Y.1 ∧ isP G M bs ln pl so sa nu ∧ (sa ≤ 160 ∧ so ≤ 4) ∧ (tx bs ln).1.1 ≤ 6 ∧ ((tx bs ln).1.1 = 0 → Y.1 = (tx bs ln).2.2.1 ∧ okZ Y)
set_option maxRecDepth 100000 in
set_option maxHeartbeats 4000000 in
theorem f_X2_readText {G : gb_G} (hW : gW G) {Q : Option Value → gb_M → Prop} {mM : gb_M} {bs : Nat → Nat} {ln pl so sa nu : Nat} (hP : isP G mM bs ln pl so sa nu) (hln : ln ≤ 160) (hbs : ∀ k, k < ln → bs k ≤ 127) (hsa : sa ≤ 160) (hso : so ≤ 4) {fo fp s1 s2 s3 : Nat} {s4 : Bool} {V : Tw} (hC : isC G mM fo fp s1 s2 s3 s4) (hV : isT G mM 15 V)  (hQ : ∀ M', TxP G M' bs ln → sm mM M' 12 18 → Q (some (.int (a_text bs ln))) M') : Fn G 9 yX2_readText cX2_readText 3 (some .int) [.ref (gb_ad G 14), .ref (gb_ad G 12)] mM Q := by
  have hN := hW.2.2.1
  refine Fn.of hW.1 [(0, .ref (gb_ad G 14)), (1, .ref (gb_ad G 12))] (by decide) (Nat.le_of_ble_eq_true rfl) rfl ?_
  intro X O
  refine w_aload_n (n := 1) O dX2_readText_0 rfl rfl rfl ?_
  refine w_aload_n (n := 2) O dX2_readText_1 rfl rfl rfl ?_
  refine w_cV (n := 5) (ro := none) (R := fun mM' => isP G mM' bs ln 0 so sa nu ∧ isC G mM' 0 fp 0 0 0 false ∧ isT G mM' 15 Z0.1 ∧ sm mM mM' 12 18) (st := []) (st1 := []) (As := [.ref (gb_ad G 12)]) (b := 14) O dX2_readText_2 ul_X2_38 um_X2_begin (f_X2_begin hW ⟨hP.1, hP.2⟩ hC ⟨hV.1, hV.2.1, hV.2.2.1, hV.2.2.2⟩ (fun M' h1 h2 h3 h4 => ⟨rfl, h1, h2, h3, h4⟩)) rfl (by omega) hC rfl rfl rfl rfl (by omega) (Nat.le_of_ble_eq_true rfl) rfl (fun mhM_1 hM_1 => ?_)
  obtain ⟨hPb, hCb, hVb, hsb⟩ := hM_1
  refine w_iconst (n := 6) O dX2_readText_5 (v := (nI 0)) (by decide) rfl ?_
  refine w_istore_n (n := 7) (lv' := [(2, .int (nI 0)), (0, .ref (gb_ad G 14)), (1, .ref (gb_ad G 12))]) O dX2_readText_6 rfl (by decide) rfl rfl ?_
  have TX : ∀ (k : Nat) (l : Nat) (m1 : gb_M) (F : Nat × Nat) (e : Nat) (U : Sc), 161 - l = k → l ≤ 160 → F.1 ≤ 6 → LnP G m1 bs ln F e U → sm mM m1 12 18 → (F.1 = 0 → l ≤ e ∧ e ≤ ln ∧ okZ U ∧ tx bs ln = pTx bs ln (161 - l) U e l) → (F.1 ≠ 0 → ∃ W, tx bs ln = (F, l, W)) → Wm G X 3 Q 7 [(0, .ref (gb_ad G 14)), (1, .ref (gb_ad G 12)), (2, .int (nI (l)))] [] m1 := by
    intro k
    induction k using Nat.strongRecOn with
    | ind k ih_TX =>
      intro l m1 F e U hk hl hF6 hL hs1 h0 hn
      obtain ⟨fp1, Y, pl1, so1, sa1, nu1, hC1, hV1, hP1, hb1, hb2, hb3, hf1, h01⟩ := hL
      refine w_iload_n (n := 8) O dX2_readText_7 rfl rfl rfl ?_
      refine w_sipush (n := 11) O dX2_readText_8 (v := (nI 160)) (by decide) rfl ?_
      refine w_icmp_gtN (n := 14) (tgt := 41) O dX2_readText_11 (by omega) (by omega) (by decide) rfl (fun c_2 => absurd c_2 (by omega)) (fun c_2 => ?_)
      by_cases hF0 : F.1 = 0
      · obtain ⟨e1, e2⟩ := h01 hF0
        subst e1
        subst e2
        obtain ⟨h0a, h0b, hZk, h0d⟩ := h0 hF0
        have hZ : Y.2.1 < 16 ∧ Y.2.2.1 < 16 ∧ Y.2.2.2.1 < 16 := hZk.2.2
        have hg4 : Y.1.2.2.2.1 ≤ 4 := hZk.1.1
        have hC_3 : isC G m1 0 fp1 Y.2.1 Y.2.2.1 Y.2.2.2.1 Y.2.2.2.2 := Eq.mp (congrArg (fun x => isC G m1 x fp1 Y.2.1 Y.2.2.1 Y.2.2.2.1 Y.2.2.2.2) hF0) hC1
        refine w_aload_n (n := 15) O dX2_readText_14 rfl rfl rfl ?_
        refine w_aload_n (n := 16) O dX2_readText_15 rfl rfl rfl ?_
        refine w_cV (n := 19) (ro := some (.int (bI (decide (¬ tkS bs ln pl1 = 0))))) (R := fun mM' => ∃ fp', isP G mM' bs ln (tkE bs ln pl1) (tkS bs ln pl1) (tkB bs ln pl1) (tkU bs ln pl1 nu1) ∧ isC G mM' (aT bs ln pl1) fp' Y.2.1 Y.2.2.1 Y.2.2.2.1 Y.2.2.2.2 ∧ (aT bs ln pl1 ≠ 0 → fp' = tkB bs ln pl1) ∧ sm m1 mM' 12 14) (st := []) (st1 := [.int (bI (decide (¬ tkS bs ln pl1 = 0)))]) (As := [.ref (gb_ad G 12)]) (b := 14) O dX2_readText_16 ul_X2_42 um_X2_readOn (f_X2_readOn hW ⟨hP1.1, hP1.2⟩ hln hbs (by omega) (by omega) (by omega) hC_3 (fun M' a h1 h2 h3 h4 => ⟨rfl, a, h1, h2, h3, h4⟩)) rfl (by omega) hC_3 rfl rfl rfl rfl (by decide) (Nat.le_of_ble_eq_true rfl) rfl (fun mhM_9 hM_9 => ?_)
        obtain ⟨fp_8, hP_4, hC_5, hf_6, hs_7⟩ := hM_9
        have bhP_4 := tkE_le (bs := bs) (ln := ln) (p := pl1) (by omega)
        have chP_4 := tkB_le (bs := bs) (ln := ln) (p := pl1) (by omega)
        have dhP_4 := tkE_ge bs ln pl1
        have ehP_4 := tkS_le bs ln pl1
        refine w_if_eqB (n := 22) (tgt := 41) O dX2_readText_19 (by decide) rfl (fun c_10 => ?_) (fun c_10 => ?_)
        · skip
          have hz0 := dn_f c_10
          have ea : aT bs ln pl1 = 1 := if_pos hz0
          have hC_11 : isC G mhM_9 1 fp_8 Y.2.1 Y.2.2.1 Y.2.2.2.1 Y.2.2.2.2 := Eq.mp (congrArg (fun x => isC G mhM_9 x fp_8 Y.2.1 Y.2.2.1 Y.2.2.2.1 Y.2.2.2.2) ea) hC_5
          refine w_aload_n (n := 42) O dX2_readText_41 rfl rfl rfl ?_
          refine w_getf (n := 45) O 1 dX2_readText_42 (by omega) hC_11 rfl (by decide) uX2 uf_X2_18 rfl rfl ?_
          refine w_if_neN (n := 48) (tgt := 79) O dX2_readText_45 (by omega) (by decide) rfl (fun c_12 => ?_) (fun c_12 => absurd c_12 (by decide))
          refine w_aload_n (n := 80) O dX2_readText_79 rfl rfl rfl ?_
          refine w_getf (n := 83) O 1 dX2_readText_80 (by omega) hC_11 rfl (by decide) uX2 uf_X2_18 rfl rfl ?_
          refine w_if_neN (n := 86) (tgt := 90) O dX2_readText_83 (by omega) (by decide) rfl (fun c_13 => ?_) (fun c_13 => absurd c_13 (by decide))
          refine w_bipush (n := 92) O dX2_readText_90 (v := (-10)) (by decide) rfl ?_
          refine w_aload_n (n := 93) O dX2_readText_92 rfl rfl rfl ?_
          refine w_getf (n := 96) O 2 dX2_readText_93 (by omega) hC_11 rfl (by decide) uX2 uf_X2_22 rfl rfl ?_
          refine w_isub (n := 97) O dX2_readText_96 rfl ?_
          refine w_iret O dX2_readText_97 ?_
          have htx := h0d
          rw [show 161 - l = (160 - l) + 1 by omega] at htx
          simp only [pTx] at htx
          rw [if_pos hz0] at htx
          have etx : tx bs ln = ((1, tkB bs ln pl1), l, Y) := htx
          have ea2 : a_text bs ln = (((-10) - (nI (fp_8)))) := by unfold a_text; rw [etx, hf_6 (by rw [ea]; decide)]; rfl
          rw [ea2] at hQ
          exact hQ _ (by unfold TxP; rw [etx]; exact ⟨_, Y, _, _, _, _, hC_11, ⟨((hs_7 (15) (by omega)).trans hV1.1), ((hs_7 (16) (by omega)).trans hV1.2.1), ((hs_7 (17) (by omega)).trans hV1.2.2.1), ((hs_7 (18) (by omega)).trans hV1.2.2.2)⟩, ⟨hP_4.1, hP_4.2⟩, ⟨(by omega), (by omega)⟩, (show 1 ≤ 6 by decide), (fun q => absurd q (Nat.succ_ne_zero _))⟩) ((sm.rf.tr (hs1.mono (by omega) (by omega))).tr (hs_7.mono (by omega) (by omega)))
        · skip
          refine w_aload_n (n := 23) O dX2_readText_22 rfl rfl rfl ?_
          refine w_getf (n := 26) O 3 dX2_readText_23 (by omega) hP_4.1 rfl (by decide) uX4 uf_X2_46 rfl rfl ?_
          refine w_iconst (n := 27) O dX2_readText_26 (v := (nI 1)) (by decide) rfl ?_
          refine w_icmp_eqN (n := 30) (tgt := 41) O dX2_readText_27 (by omega) (by omega) (by decide) rfl (fun c_14 => ?_) (fun c_14 => ?_)
          · skip
            have ht := dn_t c_10
            have ea : aT bs ln pl1 = 0 := if_neg ht
            have hC_15 : isC G mhM_9 0 fp_8 Y.2.1 Y.2.2.1 Y.2.2.2.1 Y.2.2.2.2 := Eq.mp (congrArg (fun x => isC G mhM_9 x fp_8 Y.2.1 Y.2.2.1 Y.2.2.2.1 Y.2.2.2.2) ea) hC_5
            refine w_aload_n (n := 42) O dX2_readText_41 rfl rfl rfl ?_
            refine w_getf (n := 45) O 1 dX2_readText_42 (by omega) hC_15 rfl (by decide) uX2 uf_X2_18 rfl rfl ?_
            refine w_if_neN (n := 48) (tgt := 79) O dX2_readText_45 (by omega) (by decide) rfl (fun c_16 => absurd rfl c_16) (fun c_16 => ?_)
            refine w_aload_n (n := 49) O dX2_readText_48 rfl rfl rfl ?_
            refine w_getf (n := 52) O 3 dX2_readText_49 (by omega) hC_15 rfl (by decide) uX2 uf_X2_25 rfl rfl ?_
            refine w_aload_n (n := 53) O dX2_readText_52 rfl rfl rfl ?_
            refine w_getf (n := 56) O 4 dX2_readText_53 (by omega) hC_15 rfl (by decide) uX2 uf_X2_28 rfl rfl ?_
            refine w_ior (n := 57) O dX2_readText_56 rfl ?_
            refine w_aload_n (n := 58) O dX2_readText_57 rfl rfl rfl ?_
            refine w_getf (n := 61) O 0 dX2_readText_58 (by omega) hC_15 rfl (by decide) uX2 uf_X2_12 rfl rfl ?_
            refine w_getf (n := 64) O 3 dX2_readText_61 (by omega) ((hs_7 (15) (by omega)).trans hV1.1) rfl (by decide) uX5 uf_X2_54 rfl rfl ?_
            refine w_ishr (n := 65) O dX2_readText_64 rfl ?_
            refine w_if_eq (n := 68) (tgt := 79) O dX2_readText_65 (by decide) rfl (fun c_17 => ?_) (fun c_17 => ?_)
            · skip
              refine w_aload_n (n := 80) O dX2_readText_79 rfl rfl rfl ?_
              refine w_getf (n := 83) O 1 dX2_readText_80 (by omega) hC_15 rfl (by decide) uX2 uf_X2_18 rfl rfl ?_
              refine w_if_neN (n := 86) (tgt := 90) O dX2_readText_83 (by omega) (by decide) rfl (fun c_18 => absurd rfl c_18) (fun c_18 => ?_)
              refine w_iload_n (n := 87) O dX2_readText_86 rfl rfl rfl ?_
              refine w_goto (tgt := 97) O dX2_readText_87 (by decide) ?_
              refine w_iret O dX2_readText_97 ?_
              have htx := h0d
              rw [show 161 - l = (160 - l) + 1 by omega] at htx
              simp only [pTx] at htx
              rw [if_neg ht, if_pos c_14] at htx
              rw [if_neg (by rw [show noB Y = false from decide_eq_false (fun q => q c_17)]; decide)] at htx
              have etx : tx bs ln = ((0, ln), l, Y) := htx
              have ea2 : a_text bs ln = nI l := by unfold a_text; rw [etx]; rfl
              rw [ea2] at hQ
              exact hQ _ (by unfold TxP; rw [etx]; exact ⟨_, Y, _, _, _, _, hC_15, ⟨((hs_7 (15) (by omega)).trans hV1.1), ((hs_7 (16) (by omega)).trans hV1.2.1), ((hs_7 (17) (by omega)).trans hV1.2.2.1), ((hs_7 (18) (by omega)).trans hV1.2.2.2)⟩, ⟨hP_4.1, hP_4.2⟩, ⟨(by omega), (by omega)⟩, (Nat.zero_le _), (fun _ => ⟨rfl, hZk⟩)⟩) ((sm.rf.tr (hs1.mono (by omega) (by omega))).tr (hs_7.mono (by omega) (by omega)))
            · skip
              refine w_aload_n (n := 69) O dX2_readText_68 rfl rfl rfl ?_
              refine w_bipush (n := 71) O dX2_readText_69 (v := (nI 6)) (by decide) rfl ?_
              refine w_aload_n (n := 72) O dX2_readText_71 rfl rfl rfl ?_
              refine w_getf (n := 75) O 1 dX2_readText_72 (by omega) hP_4.1 rfl (by decide) uX4 uf_X2_57 rfl rfl ?_
              refine w_cV (n := 78) (ro := some (.int (bI (false)))) (R := fun mM' => isC G mM' 6 ln Y.2.1 Y.2.2.1 Y.2.2.2.1 Y.2.2.2.2 ∧ sm mhM_9 mM' 14 14) (st := []) (st1 := [.int (bI (false))]) (As := [.int (nI 6), .int (nI (ln))]) (b := 14) O dX2_readText_75 ul_X2_60 um_X2_refuse (f_X2_refuse hW hC_15 (fun M' h1 h2 => ⟨rfl, h1, h2⟩)) rfl (by omega) hC_15 rfl rfl rfl rfl (by decide) (Nat.le_of_ble_eq_true rfl) rfl (fun mhM_21 hM_21 => ?_)
              obtain ⟨hC_19, hs_20⟩ := hM_21
              refine w_pop (n := 79) O dX2_readText_78 rfl rfl ?_
              refine w_aload_n (n := 80) O dX2_readText_79 rfl rfl rfl ?_
              refine w_getf (n := 83) O 1 dX2_readText_80 (by omega) hC_19 rfl (by decide) uX2 uf_X2_18 rfl rfl ?_
              refine w_if_neN (n := 86) (tgt := 90) O dX2_readText_83 (by omega) (by decide) rfl (fun c_22 => ?_) (fun c_22 => absurd c_22 (by decide))
              refine w_bipush (n := 92) O dX2_readText_90 (v := (-10)) (by decide) rfl ?_
              refine w_aload_n (n := 93) O dX2_readText_92 rfl rfl rfl ?_
              refine w_getf (n := 96) O 2 dX2_readText_93 (by omega) hC_19 rfl (by decide) uX2 uf_X2_22 rfl rfl ?_
              refine w_isub (n := 97) O dX2_readText_96 rfl ?_
              refine w_iret O dX2_readText_97 ?_
              have htx := h0d
              rw [show 161 - l = (160 - l) + 1 by omega] at htx
              simp only [pTx] at htx
              rw [if_neg ht, if_pos c_14] at htx
              rw [if_pos (show noB Y = true from decide_eq_true c_17)] at htx
              have etx : tx bs ln = ((6, ln), l, Y) := htx
              have ea2 : a_text bs ln = (((-10) - (nI (ln)))) := by unfold a_text; rw [etx]; rfl
              rw [ea2] at hQ
              exact hQ _ (by unfold TxP; rw [etx]; exact ⟨_, Y, _, _, _, _, hC_19, ⟨((hs_20 (15) (by omega)).trans ((hs_7 (15) (by omega)).trans hV1.1)), ((hs_20 (16) (by omega)).trans ((hs_7 (16) (by omega)).trans hV1.2.1)), ((hs_20 (17) (by omega)).trans ((hs_7 (17) (by omega)).trans hV1.2.2.1)), ((hs_20 (18) (by omega)).trans ((hs_7 (18) (by omega)).trans hV1.2.2.2))⟩, ⟨((hs_20 (12) (by omega)).trans hP_4.1), ((hs_20 (13) (by omega)).trans hP_4.2)⟩, ⟨(by omega), (by omega)⟩, (show 6 ≤ 6 by decide), (fun q => absurd q (Nat.succ_ne_zero _))⟩) (((sm.rf.tr (hs1.mono (by omega) (by omega))).tr (hs_7.mono (by omega) (by omega))).tr (hs_20.mono (by omega) (by omega)))
          · skip
            have ht := dn_t c_10
            have ea : aT bs ln pl1 = 0 := if_neg ht
            have hC_23 : isC G mhM_9 0 fp_8 Y.2.1 Y.2.2.1 Y.2.2.2.1 Y.2.2.2.2 := Eq.mp (congrArg (fun x => isC G mhM_9 x fp_8 Y.2.1 Y.2.2.1 Y.2.2.2.1 Y.2.2.2.2) ea) hC_5
            have htx := h0d
            rw [show 161 - l = (160 - l) + 1 by omega] at htx
            simp only [pTx] at htx
            rw [if_neg ht, if_neg c_14] at htx
            have hgt := tkE_gt c_14
            have hel := eLin_ge bs ln (tkS bs ln pl1) (tkB bs ln pl1) (tkE bs ln pl1)
            have hte := tkE_le (bs := bs) hb1
            have hee := eLin_le (bs := bs) (tkS bs ln pl1) (tkB bs ln pl1) hte
            refine w_aload_n (n := 31) O dX2_readText_30 rfl rfl rfl ?_
            refine w_aload_n (n := 32) O dX2_readText_31 rfl rfl rfl ?_
            refine w_cV (n := 35) (ro := none) (R := fun mM' => LnP G mM' bs ln (fLin bs ln Y (tkS bs ln pl1) (tkB bs ln pl1) (tkE bs ln pl1)) (eLin bs ln (tkS bs ln pl1) (tkB bs ln pl1) (tkE bs ln pl1)) (uLin bs ln Y (tkS bs ln pl1) (tkB bs ln pl1) (tkE bs ln pl1)) ∧ sm mhM_9 mM' 12 18) (st := []) (st1 := []) (As := [.ref (gb_ad G 12)]) (b := 14) O dX2_readText_32 ul_X2_51 um_X2_readLine (f_X2_readLine (Z := Y) hW ⟨hP_4.1, hP_4.2⟩ hln hbs (by omega) (by omega) (by omega) (by omega) hC_23 ⟨((hs_7 (15) (by omega)).trans hV1.1), ((hs_7 (16) (by omega)).trans hV1.2.1), ((hs_7 (17) (by omega)).trans hV1.2.2.1), ((hs_7 (18) (by omega)).trans hV1.2.2.2)⟩ hZ hg4 (fun M' h1 h2 => ⟨rfl, h1, h2⟩)) rfl (by omega) hC_23 rfl rfl rfl rfl (by omega) (Nat.le_of_ble_eq_true rfl) rfl (fun mhM_24 hM_24 => ?_)
            refine w_iincN (n := 38) (lv' := [(2, .int (nI (l + 1))), (0, .ref (gb_ad G 14)), (1, .ref (gb_ad G 12))]) O dX2_readText_35 rfl (by decide) rfl rfl ?_
            refine w_goto (tgt := 7) O dX2_readText_38 (by decide) ?_
            refine w_lv (lv2 := [(0, .ref (gb_ad G 14)), (1, .ref (gb_ad G 12)), (2, .int (nI (l + 1)))]) [1, 2, 0] rfl ?_
            exact ih_TX _ (by omega) (l + 1) _ (fLin bs ln Y (tkS bs ln pl1) (tkB bs ln pl1) (tkE bs ln pl1)) (eLin bs ln (tkS bs ln pl1) (tkB bs ln pl1) (tkE bs ln pl1)) (uLin bs ln Y (tkS bs ln pl1) (tkB bs ln pl1) (tkE bs ln pl1)) rfl (by omega) (fLin_le bs ln Y _ _ _) hM_24.1 (((sm.rf.tr (hs1.mono (by omega) (by omega))).tr (hs_7.mono (by omega) (by omega))).tr hM_24.2) (fun q => ⟨by omega, hee, okZ_wd hZk q, by rw [htx, if_pos q, show 161 - (l + 1) = 160 - l by omega]⟩) (fun q => ⟨Y, by rw [htx, if_neg q]⟩)
      · skip
        refine w_aload_n (n := 15) O dX2_readText_14 rfl rfl rfl ?_
        refine w_aload_n (n := 16) O dX2_readText_15 rfl rfl rfl ?_
        refine w_cV (n := 19) (ro := some (.int (bI (false)))) (R := fun mM' => m1 = mM') (st := []) (st1 := [.int (bI (false))]) (As := [.ref (gb_ad G 12)]) (b := 14) O dX2_readText_16 ul_X2_42 um_X2_readOn (f_X2_readOnF hW hC1 hF0 hF6 ⟨rfl, rfl⟩) rfl (by omega) hC1 rfl rfl rfl rfl (by decide) (Nat.le_of_ble_eq_true rfl) rfl (fun mhM_25 hM_25 => ?_)
        subst hM_25
        refine w_if_eqB (n := 22) (tgt := 41) O dX2_readText_19 (by decide) rfl (fun c_26 => ?_) (fun c_26 => absurd c_26 (by decide))
        refine w_aload_n (n := 42) O dX2_readText_41 rfl rfl rfl ?_
        refine w_getf (n := 45) O 1 dX2_readText_42 (by omega) hC1 rfl (by decide) uX2 uf_X2_18 rfl rfl ?_
        refine w_if_neN (n := 48) (tgt := 79) O dX2_readText_45 (by omega) (by decide) rfl (fun c_27 => ?_) (fun c_27 => absurd c_27 hF0)
        refine w_aload_n (n := 80) O dX2_readText_79 rfl rfl rfl ?_
        refine w_getf (n := 83) O 1 dX2_readText_80 (by omega) hC1 rfl (by decide) uX2 uf_X2_18 rfl rfl ?_
        refine w_if_neN (n := 86) (tgt := 90) O dX2_readText_83 (by omega) (by decide) rfl (fun c_28 => ?_) (fun c_28 => absurd c_28 hF0)
        refine w_bipush (n := 92) O dX2_readText_90 (v := (-10)) (by decide) rfl ?_
        refine w_aload_n (n := 93) O dX2_readText_92 rfl rfl rfl ?_
        refine w_getf (n := 96) O 2 dX2_readText_93 (by omega) hC1 rfl (by decide) uX2 uf_X2_22 rfl rfl ?_
        refine w_isub (n := 97) O dX2_readText_96 rfl ?_
        refine w_iret O dX2_readText_97 ?_
        obtain ⟨W, hW9⟩ := hn hF0
        have etx : tx bs ln = (F, l, W) := hW9
        have ea2 : a_text bs ln = (((-10) - (nI (fp1)))) := by unfold a_text; rw [etx, hf1 hF0]; exact if_neg hF0
        rw [ea2] at hQ
        exact hQ _ (by unfold TxP; rw [etx]; exact ⟨_, Y, _, _, _, _, hC1, ⟨hV1.1, hV1.2.1, hV1.2.2.1, hV1.2.2.2⟩, ⟨hP1.1, hP1.2⟩, ⟨(by omega), (by omega)⟩, hF6, (fun q => absurd q hF0)⟩) (sm.rf.tr (hs1.mono (by omega) (by omega)))
  refine w_lv (lv2 := [(0, .ref (gb_ad G 14)), (1, .ref (gb_ad G 12)), (2, .int (nI 0))]) [1, 2, 0] rfl ?_
  exact TX _ 0 _ (0, 0) 0 Z0 rfl (Nat.zero_le _) (Nat.zero_le _) ⟨_, Z0, _, _, _, _, hCb, ⟨hVb.1, hVb.2.1, hVb.2.2.1, hVb.2.2.2⟩, ⟨hPb.1, hPb.2⟩, (Nat.zero_le _), (by omega), (by omega), (fun q => absurd rfl q), (fun _ => ⟨rfl, rfl⟩)⟩ (sm.rf.tr (hsb.mono (by omega) (by omega))) (fun _ => ⟨Nat.zero_le _, Nat.zero_le _, okZ_0, rfl⟩) (fun q => absurd rfl q)
