set_option maxRecDepth 100000 in
set_option maxHeartbeats 4000000 in
theorem f_X2_begin {G : gb_G} (hW : gW G) {Q : Option Value → gb_M → Prop} {mM : gb_M} {bs : Nat → Nat} {ln pl so sa nu : Nat} (hP : isP G mM bs ln pl so sa nu) {fo fp s1 s2 s3 : Nat} {s4 : Bool} {V : Tw} (hC : isC G mM fo fp s1 s2 s3 s4) (hV : isT G mM 15 V)  (hQ : ∀ M', isP G M' bs ln 0 so sa nu → isC G M' 0 fp 0 0 0 false → isT G M' 15 Z0.1 → sm mM M' 12 18 → Q none M') : Fn G 2 yX2_begin cX2_begin 2 none [.ref (gb_ad G 14), .ref (gb_ad G 12)] mM Q := by
  have hN := hW.2.2.1
  refine Fn.of hW.1 [(0, .ref (gb_ad G 14)), (1, .ref (gb_ad G 12))] (by decide) (Nat.le_of_ble_eq_true rfl) rfl ?_
  intro X O
  refine w_aload_n (n := 1) O dX2_begin_0 rfl rfl rfl ?_
  refine w_cV (n := 4) (ro := none) (R := fun mM' => isP G mM' bs ln 0 so sa nu ∧ sm mM mM' 12 13) (st := []) (st1 := []) (As := []) (b := 12) O dX2_begin_1 ul_X2_64 um_X4_rewind (f_X4_rewind hW ⟨hP.1, hP.2⟩ (fun M' h1 h2 => ⟨rfl, h1, h2⟩)) rfl (by omega) hP.1 rfl rfl rfl rfl (by decide) (Nat.le_of_ble_eq_true rfl) rfl (fun mhM_3 hM_3 => ?_)
  obtain ⟨hP_1, hs_2⟩ := hM_3
  refine w_aload_n (n := 5) O dX2_begin_4 rfl rfl rfl ?_
  refine w_getf (n := 8) O 0 dX2_begin_5 (by omega) ((hs_2 (14) (by omega)).trans hC) rfl (by decide) uX2 uf_X2_12 rfl rfl ?_
  refine w_cV (n := 11) (ro := none) (R := fun mM' => isT G mM' (15) Z0.1 ∧ sm mhM_3 mM' (15) (15 + 3)) (st := []) (st1 := []) (As := []) (b := 15) O dX2_begin_8 ul_X2_67 um_X5_clear (f_X5_clear (T := V) hW ⟨((hs_2 (15) (by omega)).trans hV.1), ((hs_2 (16) (by omega)).trans hV.2.1), ((hs_2 (17) (by omega)).trans hV.2.2.1), ((hs_2 (18) (by omega)).trans hV.2.2.2)⟩ (by omega) (fun M' h1 h2 => ⟨rfl, h1, h2⟩)) rfl (by omega) ((hs_2 (15) (by omega)).trans hV.1) rfl rfl rfl rfl (by omega) (Nat.le_of_ble_eq_true rfl) rfl (fun mhM_4 hM_4 => ?_)
  obtain ⟨hThM_4, hshM_4⟩ := hM_4
  refine w_aload_n (n := 12) O dX2_begin_11 rfl rfl rfl ?_
  refine w_iconst (n := 13) O dX2_begin_12 (v := (nI 0)) (by decide) rfl ?_
  refine w_putf (n := 16) (fs' := [.ref (gb_ad G 15), .int (nI 0), .int (nI (fp)), .int (nI (s1)), .int (nI (s2)), .int (nI (s3)), .int (bI (s4))]) O 1 dX2_begin_13 (by omega) ((hshM_4 (14) (by omega)).trans ((hs_2 (14) (by omega)).trans hC)) rfl (by decide) uX2 uf_X2_18 tyX2 tyX2_ok nmX2 rfl rfl rfl (Nat.le_of_ble_eq_true rfl) rfl rfl ?_
  refine w_aload_n (n := 17) O dX2_begin_16 rfl rfl rfl ?_
  refine w_iconst (n := 18) O dX2_begin_17 (v := (nI 0)) (by decide) rfl ?_
  refine w_putf (n := 21) (fs' := [.ref (gb_ad G 15), .int (nI 0), .int (nI (fp)), .int (nI 0), .int (nI (s2)), .int (nI (s3)), .int (bI (s4))]) O 3 dX2_begin_18 (by omega) (va_up_self _ _ _) rfl (by decide) uX2 uf_X2_25 tyX2 tyX2_ok nmX2 rfl rfl rfl (Nat.le_of_ble_eq_true rfl) rfl rfl ?_
  refine w_aload_n (n := 22) O dX2_begin_21 rfl rfl rfl ?_
  refine w_iconst (n := 23) O dX2_begin_22 (v := (nI 0)) (by decide) rfl ?_
  refine w_putf (n := 26) (fs' := [.ref (gb_ad G 15), .int (nI 0), .int (nI (fp)), .int (nI 0), .int (nI 0), .int (nI (s3)), .int (bI (s4))]) O 4 dX2_begin_23 (by omega) (va_up_self _ _ _) rfl (by decide) uX2 uf_X2_28 tyX2 tyX2_ok nmX2 rfl rfl rfl (Nat.le_of_ble_eq_true rfl) rfl rfl ?_
  refine w_aload_n (n := 27) O dX2_begin_26 rfl rfl rfl ?_
  refine w_iconst (n := 28) O dX2_begin_27 (v := (nI 0)) (by decide) rfl ?_
  refine w_putf (n := 31) (fs' := [.ref (gb_ad G 15), .int (nI 0), .int (nI (fp)), .int (nI 0), .int (nI 0), .int (nI 0), .int (bI (s4))]) O 5 dX2_begin_28 (by omega) (va_up_self _ _ _) rfl (by decide) uX2 uf_X2_31 tyX2 tyX2_ok nmX2 rfl rfl rfl (Nat.le_of_ble_eq_true rfl) rfl rfl ?_
  refine w_aload_n (n := 32) O dX2_begin_31 rfl rfl rfl ?_
  refine w_iconst (n := 33) O dX2_begin_32 (v := (nI 0)) (by decide) rfl ?_
  refine w_top (bI false) (by decide) ?_
  refine w_putf (n := 36) (fs' := [.ref (gb_ad G 15), .int (nI 0), .int (nI (fp)), .int (nI 0), .int (nI 0), .int (nI 0), .int (bI (false))]) O 6 dX2_begin_33 (by omega) (va_up_self _ _ _) rfl (by decide) uX2 uf_X2_34 tyX2 tyX2_ok nmX2 rfl (bI_nar _) (bI_fit _) (Nat.le_of_ble_eq_true rfl) rfl rfl ?_
  refine w_vret O dX2_begin_36 ?_
  exact hQ _ ⟨((va_up_ne _ _ (by decide)).trans ((va_up_ne _ _ (by decide)).trans ((va_up_ne _ _ (by decide)).trans ((va_up_ne _ _ (by decide)).trans ((va_up_ne _ _ (by decide)).trans ((hshM_4 (12) (by omega)).trans hP_1.1)))))), ((va_up_ne _ _ (by decide)).trans ((va_up_ne _ _ (by decide)).trans ((va_up_ne _ _ (by decide)).trans ((va_up_ne _ _ (by decide)).trans ((va_up_ne _ _ (by decide)).trans ((hshM_4 (13) (by omega)).trans hP_1.2))))))⟩ (va_up_self _ _ _) ⟨((va_up_ne _ _ (by decide)).trans ((va_up_ne _ _ (by decide)).trans ((va_up_ne _ _ (by decide)).trans ((va_up_ne _ _ (by decide)).trans ((va_up_ne _ _ (by decide)).trans hThM_4.1))))), ((va_up_ne _ _ (by decide)).trans ((va_up_ne _ _ (by decide)).trans ((va_up_ne _ _ (by decide)).trans ((va_up_ne _ _ (by decide)).trans ((va_up_ne _ _ (by decide)).trans hThM_4.2.1))))), ((va_up_ne _ _ (by decide)).trans ((va_up_ne _ _ (by decide)).trans ((va_up_ne _ _ (by decide)).trans ((va_up_ne _ _ (by decide)).trans ((va_up_ne _ _ (by decide)).trans hThM_4.2.2.1))))), ((va_up_ne _ _ (by decide)).trans ((va_up_ne _ _ (by decide)).trans ((va_up_ne _ _ (by decide)).trans ((va_up_ne _ _ (by decide)).trans ((va_up_ne _ _ (by decide)).trans hThM_4.2.2.2)))))⟩ (((((((sm.rf.tr (hs_2.mono (by omega) (by omega))).tr (hshM_4.mono (by omega) (by omega))).up (by omega) (by omega)).up (by omega) (by omega)).up (by omega) (by omega)).up (by omega) (by omega)).up (by omega) (by omega))
