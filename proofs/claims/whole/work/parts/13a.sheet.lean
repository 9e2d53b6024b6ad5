set_option maxRecDepth 100000 in
set_option maxHeartbeats 4000000 in
theorem f_X3_renew {G : gb_G} (hW : gW G) {Q : Option Value → gb_M → Prop} {mM : gb_M} {b : Nat} {sz : Int32} {pf la : Nat} {r : Nat → Int32} (hS : isS G mM b sz pf la r) (hb : b + 1 < gb_N G) {la2 n2 : Nat} (hQ : ∀ M', isS G M' b (nI n2) pf la2 (fun _ => nI 0) → sm mM M' b (b + 1) → Q none M') : Fn G 1 yX3_renew cX3_renew 3 none [.ref (gb_ad G (b)), .int (nI (la2)), .int (nI (n2))] mM Q := by
  have hN := hW.2.2.1
  refine Fn.of hW.1 [(0, .ref (gb_ad G (b))), (1, .int (nI (la2))), (2, .int (nI (n2)))] (by decide) (Nat.le_of_ble_eq_true rfl) rfl ?_
  intro X O
  refine w_aload_n (n := 1) O dX3_renew_0 rfl rfl rfl ?_
  refine w_getf (n := 4) O 0 dX3_renew_1 (by omega) hS.1 rfl (by decide) uX3 uf_X3_9 rfl rfl ?_
  refine w_iconst (n := 5) O dX3_renew_4 (v := (nI 0)) (by decide) rfl ?_
  refine w_cS (n := 8) (ro := none) (R := fun mM' => (va_up mM (b + 1) (IA G 40 (fun _ => (nI (0))))) = mM') (st := []) (st1 := []) (As := [.ref (gb_ad G (b + 1)), .int (nI 0)]) O dX3_renew_5 ul_X3_25 um_J7_fill_53178 (f_J7_fill hW (by omega) hS.2 (by decide) ⟨rfl, rfl⟩) rfl rfl rfl (by decide) (Nat.le_of_ble_eq_true rfl) rfl (fun mhM_1 hM_1 => ?_)
  subst hM_1
  refine w_aload_n (n := 9) O dX3_renew_8 rfl rfl rfl ?_
  refine w_iload_n (n := 10) O dX3_renew_9 rfl rfl rfl ?_
  refine w_putf (n := 13) (fs' := [.ref (gb_ad G (b + 1)), .int (sz), .int (nI (pf)), .int (nI (la2))]) O 3 dX3_renew_10 (by omega) ((va_up_ne _ _ (by omega)).trans hS.1) rfl (by decide) uX3 uf_X3_22 tyX3 tyX3_ok nmX3 rfl rfl rfl (Nat.le_of_ble_eq_true rfl) rfl rfl ?_
  refine w_aload_n (n := 14) O dX3_renew_13 rfl rfl rfl ?_
  refine w_iload_n (n := 15) O dX3_renew_14 rfl rfl rfl ?_
  refine w_putf (n := 18) (fs' := [.ref (gb_ad G (b + 1)), .int (nI (n2)), .int (nI (pf)), .int (nI (la2))]) O 1 dX3_renew_15 (by omega) (va_up_self _ _ _) rfl (by decide) uX3 uf_X3_15 tyX3 tyX3_ok nmX3 rfl rfl rfl (Nat.le_of_ble_eq_true rfl) rfl rfl ?_
  refine w_vret O dX3_renew_18 ?_
  exact hQ _ ⟨(va_up_self _ _ _), ((va_up_ne _ _ (by omega)).trans ((va_up_ne _ _ (by omega)).trans (va_up_self _ _ _)))⟩ (((sm.rf.up (by omega) (by omega)).up (by omega) (by omega)).up (by omega) (by omega))
set_option maxRecDepth 100000 in
set_option maxHeartbeats 4000000 in
theorem f_X3_faultAt {G : gb_G} (hW : gW G) {Q : Option Value → gb_M → Prop} {mM : gb_M} {b : Nat} {sz : Int32} {pf la : Nat} {r : Nat → Int32} (hS : isS G mM b sz pf la r) (hb : b + 1 < gb_N G) {i : Int32} (hQ : Q (some (.int (nI (fltAt sz i)))) mM) : Fn G 0 yX3_faultAt cX3_faultAt 2 (some .int) [.ref (gb_ad G (b)), .int (i)] mM Q := by
  have hN := hW.2.2.1
  refine Fn.of hW.1 [(0, .ref (gb_ad G (b))), (1, .int (i))] (by decide) (Nat.le_of_ble_eq_true rfl) rfl ?_
  intro X O
  refine w_aload_n (n := 1) O dX3_faultAt_0 rfl rfl rfl ?_
  refine w_getf (n := 4) O 1 dX3_faultAt_1 (by omega) hS.1 rfl (by decide) uX3 uf_X3_15 rfl rfl ?_
  refine w_iconst (n := 5) O dX3_faultAt_4 (v := (-1)) (by decide) rfl ?_
  refine w_icmp_ne (n := 8) (tgt := 10) O dX3_faultAt_5 (by decide) rfl (fun c_1 => ?_) (fun c_1 => ?_)
  · skip
    refine w_iload_n (n := 11) O dX3_faultAt_10 rfl rfl rfl ?_
    refine w_if_lt (n := 14) (tgt := 22) O dX3_faultAt_11 (by decide) rfl (fun c_2 => ?_) (fun c_2 => ?_)
    · skip
      refine w_iconst (n := 23) O dX3_faultAt_22 (v := (nI 2)) (by decide) rfl ?_
      refine w_goto (tgt := 27) O dX3_faultAt_23 (by decide) ?_
      refine w_iret O dX3_faultAt_27 ?_
      have e : fltAt sz i = 2 := by unfold fltAt; rw [if_neg c_1]; rw [if_pos (by first | exact Or.inl c_2 | exact Or.inr None)]
      rw [e] at hQ
      exact hQ
    · skip
      refine w_iload_n (n := 15) O dX3_faultAt_14 rfl rfl rfl ?_
      refine w_aload_n (n := 16) O dX3_faultAt_15 rfl rfl rfl ?_
      refine w_getf (n := 19) O 1 dX3_faultAt_16 (by omega) hS.1 rfl (by decide) uX3 uf_X3_15 rfl rfl ?_
      refine w_icmp_lt (n := 22) (tgt := 26) O dX3_faultAt_19 (by decide) rfl (fun c_3 => ?_) (fun c_3 => ?_)
      · skip
        refine w_iconst (n := 27) O dX3_faultAt_26 (v := (nI 0)) (by decide) rfl ?_
        refine w_iret O dX3_faultAt_27 ?_
        have e : fltAt sz i = 0 := by unfold fltAt; rw [if_neg c_1]; rw [if_neg (fun q => q.elim c_2 (fun z => z c_3))]
        rw [e] at hQ
        exact hQ
      · skip
        refine w_iconst (n := 23) O dX3_faultAt_22 (v := (nI 2)) (by decide) rfl ?_
        refine w_goto (tgt := 27) O dX3_faultAt_23 (by decide) ?_
        refine w_iret O dX3_faultAt_27 ?_
        have e : fltAt sz i = 2 := by unfold fltAt; rw [if_neg c_1]; rw [if_pos (by first | exact Or.inl c_2 | exact Or.inr c_3)]
        rw [e] at hQ
        exact hQ
  · skip
    refine w_iconst (n := 9) O dX3_faultAt_8 (v := (nI 1)) (by decide) rfl ?_
    refine w_iret O dX3_faultAt_9 ?_
    have e : fltAt sz i = 1 := by unfold fltAt; rw [if_pos c_1]
    rw [e] at hQ
    exact hQ
set_option maxRecDepth 100000 in
set_option maxHeartbeats 4000000 in
theorem f_X3_pairFaultAt {G : gb_G} (hW : gW G) {Q : Option Value → gb_M → Prop} {mM : gb_M} {b : Nat} {sz : Int32} {pf la : Nat} {r : Nat → Int32} (hS : isS G mM b sz pf la r) (hb : b + 1 < gb_N G) (hla : la < 2 ^ 31) {lane : Nat} (hlane : lane < 2 ^ 31) {f : Int32} (hQ : Q (some (.int (nI (pfl sz la lane f)))) mM) : Fn G 1 yX3_pairFaultAt cX3_pairFaultAt 4 (some .int) [.ref (gb_ad G (b)), .int (nI (lane)), .int (f)] mM Q := by
  have hN := hW.2.2.1
  refine Fn.of hW.1 [(0, .ref (gb_ad G (b))), (1, .int (nI (lane))), (2, .int (f))] (by decide) (Nat.le_of_ble_eq_true rfl) rfl ?_
  intro X O
  have hf1 := fltAt_le sz f
  have hf2 := fltAt_le sz (f + nI 1)
  refine w_aload_n (n := 1) O dX3_pairFaultAt_0 rfl rfl rfl ?_
  refine w_getf (n := 4) O 1 dX3_pairFaultAt_1 (by omega) hS.1 rfl (by decide) uX3 uf_X3_15 rfl rfl ?_
  refine w_iconst (n := 5) O dX3_pairFaultAt_4 (v := (-1)) (by decide) rfl ?_
  refine w_icmp_eq (n := 8) (tgt := 18) O dX3_pairFaultAt_5 (by decide) rfl (fun c_1 => ?_) (fun c_1 => ?_)
  · skip
    refine w_aload_n (n := 19) O dX3_pairFaultAt_18 rfl rfl rfl ?_
    refine w_iload_n (n := 20) O dX3_pairFaultAt_19 rfl rfl rfl ?_
    refine w_cV (n := 23) (ro := some (.int (nI (fltAt sz (f))))) (R := fun mM' => mM = mM') (st := []) (st1 := [.int (nI (fltAt sz (f)))]) (As := [.int (f)]) (b := b) O dX3_pairFaultAt_20 ul_X3_31 um_X3_faultAt (f_X3_faultAt hW ⟨hS.1, hS.2⟩ (by omega) ⟨rfl, rfl⟩) rfl (by omega) hS.1 rfl rfl rfl rfl (by decide) (Nat.le_of_ble_eq_true rfl) rfl (fun mhM_2 hM_2 => ?_)
    subst hM_2
    refine w_istore_n (n := 24) (lv' := [(3, .int (nI (fltAt sz (f)))), (0, .ref (gb_ad G (b))), (1, .int (nI (lane))), (2, .int (f))]) O dX3_pairFaultAt_23 rfl (by decide) rfl rfl ?_
    refine w_iload_n (n := 25) O dX3_pairFaultAt_24 rfl rfl rfl ?_
    refine w_if_eqN (n := 28) (tgt := 32) O dX3_pairFaultAt_25 (by omega) (by decide) rfl (fun c_3 => ?_) (fun c_3 => ?_)
    · skip
      refine w_aload_n (n := 33) O dX3_pairFaultAt_32 rfl rfl rfl ?_
      refine w_iload_n (n := 34) O dX3_pairFaultAt_33 rfl rfl rfl ?_
      refine w_iconst (n := 35) O dX3_pairFaultAt_34 (v := (nI 1)) (by decide) rfl ?_
      refine w_iadd (n := 36) O dX3_pairFaultAt_35 rfl ?_
      refine w_cV (n := 39) (ro := some (.int (nI (fltAt sz (((f) + (nI (1)))))))) (R := fun mM' => mM = mM') (st := []) (st1 := [.int (nI (fltAt sz (((f) + (nI (1))))))]) (As := [.int (((f) + (nI (1))))]) (b := b) O dX3_pairFaultAt_36 ul_X3_31 um_X3_faultAt (f_X3_faultAt hW ⟨hS.1, hS.2⟩ (by omega) ⟨rfl, rfl⟩) rfl (by omega) hS.1 rfl rfl rfl rfl (by decide) (Nat.le_of_ble_eq_true rfl) rfl (fun mhM_4 hM_4 => ?_)
      subst hM_4
      refine w_iret O dX3_pairFaultAt_39 ?_
      have e : pfl sz la lane f = fltAt sz (((f) + (nI (1)))) := by unfold pfl; rw [if_neg (fun q => q.1 c_1)]; rw [if_pos c_3]
      rw [e] at hQ
      exact hQ
    · skip
      refine w_iload_n (n := 29) O dX3_pairFaultAt_28 rfl rfl rfl ?_
      refine w_goto (tgt := 39) O dX3_pairFaultAt_29 (by decide) ?_
      refine w_iret O dX3_pairFaultAt_39 ?_
      have e : pfl sz la lane f = fltAt sz (f) := by unfold pfl; rw [if_neg (fun q => q.1 c_1)]; rw [if_neg c_3]
      rw [e] at hQ
      exact hQ
  · skip
    refine w_aload_n (n := 9) O dX3_pairFaultAt_8 rfl rfl rfl ?_
    refine w_getf (n := 12) O 3 dX3_pairFaultAt_9 (by omega) hS.1 rfl (by decide) uX3 uf_X3_22 rfl rfl ?_
    refine w_iload_n (n := 13) O dX3_pairFaultAt_12 rfl rfl rfl ?_
    refine w_icmp_eqN (n := 16) (tgt := 18) O dX3_pairFaultAt_13 (by omega) (by omega) (by decide) rfl (fun c_5 => ?_) (fun c_5 => ?_)
    · skip
      refine w_aload_n (n := 19) O dX3_pairFaultAt_18 rfl rfl rfl ?_
      refine w_iload_n (n := 20) O dX3_pairFaultAt_19 rfl rfl rfl ?_
      refine w_cV (n := 23) (ro := some (.int (nI (fltAt sz (f))))) (R := fun mM' => mM = mM') (st := []) (st1 := [.int (nI (fltAt sz (f)))]) (As := [.int (f)]) (b := b) O dX3_pairFaultAt_20 ul_X3_31 um_X3_faultAt (f_X3_faultAt hW ⟨hS.1, hS.2⟩ (by omega) ⟨rfl, rfl⟩) rfl (by omega) hS.1 rfl rfl rfl rfl (by decide) (Nat.le_of_ble_eq_true rfl) rfl (fun mhM_6 hM_6 => ?_)
      subst hM_6
      refine w_istore_n (n := 24) (lv' := [(3, .int (nI (fltAt sz (f)))), (0, .ref (gb_ad G (b))), (1, .int (nI (lane))), (2, .int (f))]) O dX3_pairFaultAt_23 rfl (by decide) rfl rfl ?_
      refine w_iload_n (n := 25) O dX3_pairFaultAt_24 rfl rfl rfl ?_
      refine w_if_eqN (n := 28) (tgt := 32) O dX3_pairFaultAt_25 (by omega) (by decide) rfl (fun c_7 => ?_) (fun c_7 => ?_)
      · skip
        refine w_aload_n (n := 33) O dX3_pairFaultAt_32 rfl rfl rfl ?_
        refine w_iload_n (n := 34) O dX3_pairFaultAt_33 rfl rfl rfl ?_
        refine w_iconst (n := 35) O dX3_pairFaultAt_34 (v := (nI 1)) (by decide) rfl ?_
        refine w_iadd (n := 36) O dX3_pairFaultAt_35 rfl ?_
        refine w_cV (n := 39) (ro := some (.int (nI (fltAt sz (((f) + (nI (1)))))))) (R := fun mM' => mM = mM') (st := []) (st1 := [.int (nI (fltAt sz (((f) + (nI (1))))))]) (As := [.int (((f) + (nI (1))))]) (b := b) O dX3_pairFaultAt_36 ul_X3_31 um_X3_faultAt (f_X3_faultAt hW ⟨hS.1, hS.2⟩ (by omega) ⟨rfl, rfl⟩) rfl (by omega) hS.1 rfl rfl rfl rfl (by decide) (Nat.le_of_ble_eq_true rfl) rfl (fun mhM_8 hM_8 => ?_)
        subst hM_8
        refine w_iret O dX3_pairFaultAt_39 ?_
        have e : pfl sz la lane f = fltAt sz (((f) + (nI (1)))) := by unfold pfl; rw [if_neg (fun q => q.2 c_5)]; rw [if_pos c_7]
        rw [e] at hQ
        exact hQ
      · skip
        refine w_iload_n (n := 29) O dX3_pairFaultAt_28 rfl rfl rfl ?_
        refine w_goto (tgt := 39) O dX3_pairFaultAt_29 (by decide) ?_
        refine w_iret O dX3_pairFaultAt_39 ?_
        have e : pfl sz la lane f = fltAt sz (f) := by unfold pfl; rw [if_neg (fun q => q.2 c_5)]; rw [if_neg c_7]
        rw [e] at hQ
        exact hQ
    · skip
      refine w_iconst (n := 17) O dX3_pairFaultAt_16 (v := (nI 3)) (by decide) rfl ?_
      refine w_iret O dX3_pairFaultAt_17 ?_
      have e : pfl sz la lane f = 3 := by unfold pfl; rw [if_pos ⟨c_1, c_5⟩]
      rw [e] at hQ
      exact hQ
set_option maxRecDepth 100000 in
set_option maxHeartbeats 4000000 in
theorem f_X3_wholePairs {G : gb_G} (hW : gW G) {Q : Option Value → gb_M → Prop} {mM : gb_M} {b : Nat} {sz : Int32} {pf la : Nat} {r : Nat → Int32} (hS : isS G mM b sz pf la r) (hb : b + 1 < gb_N G) (hla : la < 2 ^ 31) {lane n : Nat} (hlane : lane < 2 ^ 31) (hn : n < 1000) {f : Int32} (hQ : ∀ M', isS G M' b sz (if fstF (pairF sz la lane f) n 0 < n then pairF sz la lane f (fstF (pairF sz la lane f) n 0) else 0) la r → sm mM M' b (b + 1) → Q (some (.int (nI (fstF (pairF sz la lane f) n 0)))) M') : Fn G 2 yX3_wholePairs cX3_wholePairs 5 (some .int) [.ref (gb_ad G (b)), .int (nI (lane)), .int (f), .int (nI (n))] mM Q := by
  have hN := hW.2.2.1
  refine Fn.of hW.1 [(0, .ref (gb_ad G (b))), (1, .int (nI (lane))), (2, .int (f)), (3, .int (nI (n)))] (by decide) (Nat.le_of_ble_eq_true rfl) rfl ?_
  intro X O
  refine w_aload_n (n := 1) O dX3_wholePairs_0 rfl rfl rfl ?_
  refine w_iconst (n := 2) O dX3_wholePairs_1 (v := (nI 0)) (by decide) rfl ?_
  refine w_putf (n := 5) (fs' := [.ref (gb_ad G (b + 1)), .int (sz), .int (nI 0), .int (nI (la))]) O 2 dX3_wholePairs_2 (by omega) hS.1 rfl (by decide) uX3 uf_X3_19 tyX3 tyX3_ok nmX3 rfl rfl rfl (Nat.le_of_ble_eq_true rfl) rfl rfl ?_
  refine w_iconst (n := 6) O dX3_wholePairs_5 (v := (nI 0)) (by decide) rfl ?_
  refine w_istore (n := 8) (lv' := [(4, .int (nI 0)), (0, .ref (gb_ad G (b))), (1, .int (nI (lane))), (2, .int (f)), (3, .int (nI (n)))]) O dX3_wholePairs_6 (by decide) rfl rfl ?_
  have LW : ∀ (k : Nat) (i : Nat) (m1 : gb_M), n - i = k → i ≤ n → (∀ j, j < i → pairF sz la lane f j = 0) → isS G m1 b sz 0 la r → sm mM m1 b (b + 1) → Wm G X 5 Q 8 [(0, .ref (gb_ad G (b))), (1, .int (nI (lane))), (2, .int (f)), (3, .int (nI (n))), (4, .int (nI (i)))] [] m1 := by
    intro k
    induction k using Nat.strongRecOn with
    | ind k ih_LW =>
      intro i m1 hk hi hz hS1 hs1
      refine w_iload (n := 10) O dX3_wholePairs_8 rfl rfl ?_
      refine w_iload_n (n := 11) O dX3_wholePairs_10 rfl rfl rfl ?_
      refine w_icmp_geN (n := 14) (tgt := 45) O dX3_wholePairs_11 (by omega) (by omega) (by decide) rfl (fun c_1 => ?_) (fun c_1 => ?_)
      · skip
        refine w_iload_n (n := 46) O dX3_wholePairs_45 rfl rfl rfl ?_
        refine w_iret O dX3_wholePairs_46 ?_
        have e := fst_all (P := pairF sz la lane f) (n := n) (fun j hj => hz j (by omega))
        rw [e] at hQ
        rw [if_neg (Nat.lt_irrefl n)] at hQ
        exact hQ _ ⟨hS1.1, hS1.2⟩ hs1
      · skip
        refine w_aload_n (n := 15) O dX3_wholePairs_14 rfl rfl rfl ?_
        refine w_aload_n (n := 16) O dX3_wholePairs_15 rfl rfl rfl ?_
        refine w_iload_n (n := 17) O dX3_wholePairs_16 rfl rfl rfl ?_
        refine w_iload_n (n := 18) O dX3_wholePairs_17 rfl rfl rfl ?_
        refine w_iconst (n := 19) O dX3_wholePairs_18 (v := (nI 2)) (by decide) rfl ?_
        refine w_iload (n := 21) O dX3_wholePairs_19 rfl rfl ?_
        refine w_imulN (n := 22) O dX3_wholePairs_21 rfl ?_
        refine w_iadd (n := 23) O dX3_wholePairs_22 rfl ?_
        refine w_cV (n := 26) (ro := some (.int (nI (pfl sz la lane (((f) + (nI ((2 * i))))))))) (R := fun mM' => m1 = mM') (st := [.ref (gb_ad G (b))]) (st1 := [.int (nI (pfl sz la lane (((f) + (nI ((2 * i))))))), .ref (gb_ad G (b))]) (As := [.int (nI (lane)), .int (((f) + (nI ((2 * i)))))]) (b := b) O dX3_wholePairs_23 ul_X3_35 um_X3_pairFaultAt (f_X3_pairFaultAt hW ⟨hS1.1, hS1.2⟩ (by omega) hla hlane ⟨rfl, rfl⟩) rfl (by omega) hS1.1 rfl rfl rfl rfl (by decide) (Nat.le_of_ble_eq_true rfl) rfl (fun mhM_2 hM_2 => ?_)
        subst hM_2
        refine w_putf (n := 29) (fs' := [.ref (gb_ad G (b + 1)), .int (sz), .int (nI (pfl sz la lane (((f) + (nI ((2 * i))))))), .int (nI (la))]) O 2 dX3_wholePairs_26 (by omega) hS1.1 rfl (by decide) uX3 uf_X3_19 tyX3 tyX3_ok nmX3 rfl rfl rfl (Nat.le_of_ble_eq_true rfl) rfl rfl ?_
        have hpl : pfl sz la lane (f + nI (2 * i)) ≤ 3 := pfl_le sz la lane _
        refine w_aload_n (n := 30) O dX3_wholePairs_29 rfl rfl rfl ?_
        refine w_getf (n := 33) O 2 dX3_wholePairs_30 (by omega) (va_up_self _ _ _) rfl (by decide) uX3 uf_X3_19 rfl rfl ?_
        refine w_if_eqN (n := 36) (tgt := 39) O dX3_wholePairs_33 (by omega) (by decide) rfl (fun c_3 => ?_) (fun c_3 => ?_)
        · skip
          refine w_iincN (n := 42) (lv' := [(4, .int (nI (i + 1))), (0, .ref (gb_ad G (b))), (1, .int (nI (lane))), (2, .int (f)), (3, .int (nI (n)))]) O dX3_wholePairs_39 rfl (by decide) rfl rfl ?_
          refine w_goto (tgt := 8) O dX3_wholePairs_42 (by decide) ?_
          refine w_lv (lv2 := [(0, .ref (gb_ad G (b))), (1, .int (nI (lane))), (2, .int (f)), (3, .int (nI (n))), (4, .int (nI (i + 1)))]) [1, 2, 3, 4, 0] rfl ?_
          exact ih_LW _ (by omega) (i + 1) _ rfl (by omega) (fun j hj => by rcases Nat.lt_or_ge j i with q | q; exact hz j q; rw [show j = i by omega]; exact c_3) (by rw [show (0 : Nat) = pairF sz la lane f i from c_3.symm]; exact ⟨(va_up_self _ _ _), ((va_up_ne _ _ (by omega)).trans hS1.2)⟩) (hs1.up (by omega) (by omega))
        · skip
          refine w_iload (n := 38) O dX3_wholePairs_36 rfl rfl ?_
          refine w_iret O dX3_wholePairs_38 ?_
          have e := fst_at (P := pairF sz la lane f) (n := n) (i := i) (by omega) hz c_3
          rw [e] at hQ
          rw [if_pos (show i < n by omega)] at hQ
          exact hQ _ ⟨(va_up_self _ _ _), ((va_up_ne _ _ (by omega)).trans hS1.2)⟩ (hs1.up (by omega) (by omega))
  refine w_lv (lv2 := [(0, .ref (gb_ad G (b))), (1, .int (nI (lane))), (2, .int (f)), (3, .int (nI (n))), (4, .int (nI 0))]) [1, 2, 3, 4, 0] rfl ?_
  exact LW _ 0 _ rfl (Nat.zero_le _) (fun j hj => absurd hj (Nat.not_lt_zero j)) ⟨(va_up_self _ _ _), ((va_up_ne _ _ (by omega)).trans hS.2)⟩ (sm.rf.up (by omega) (by omega))
set_option maxRecDepth 100000 in
set_option maxHeartbeats 4000000 in
theorem f_X3_put {G : gb_G} (hW : gW G) {Q : Option Value → gb_M → Prop} {mM : gb_M} {b : Nat} {sz : Int32} {pf la : Nat} {r : Nat → Int32} (hS : isS G mM b sz pf la r) (hb : b + 1 < gb_N G) (hla : la < 2 ^ 31) {i : Nat} {v : Int32} (hi : i < 40) (hQ : ∀ M', isS G M' b sz pf la (upd r i (laneV la v)) → sm mM M' b (b + 1) → Q none M') : Fn G 0 yX3_put cX3_put 3 none [.ref (gb_ad G (b)), .int (nI (i)), .int (v)] mM Q := by
  have hN := hW.2.2.1
  refine Fn.of hW.1 [(0, .ref (gb_ad G (b))), (1, .int (nI (i))), (2, .int (v))] (by decide) (Nat.le_of_ble_eq_true rfl) rfl ?_
  intro X O
  refine w_aload_n (n := 1) O dX3_put_0 rfl rfl rfl ?_
  refine w_getf (n := 4) O 3 dX3_put_1 (by omega) hS.1 rfl (by decide) uX3 uf_X3_22 rfl rfl ?_
  refine w_if_neN (n := 7) (tgt := 18) O dX3_put_4 (by omega) (by decide) rfl (fun c_1 => ?_) (fun c_1 => ?_)
  · skip
    refine w_aload_n (n := 19) O dX3_put_18 rfl rfl rfl ?_
    refine w_getf (n := 22) O 3 dX3_put_19 (by omega) hS.1 rfl (by decide) uX3 uf_X3_22 rfl rfl ?_
    refine w_iconst (n := 23) O dX3_put_22 (v := (nI 1)) (by decide) rfl ?_
    refine w_icmp_neN (n := 26) (tgt := 37) O dX3_put_23 (by omega) (by omega) (by decide) rfl (fun c_2 => ?_) (fun c_2 => ?_)
    · skip
      refine w_aload_n (n := 38) O dX3_put_37 rfl rfl rfl ?_
      refine w_getf (n := 41) O 0 dX3_put_38 (by omega) hS.1 rfl (by decide) uX3 uf_X3_9 rfl rfl ?_
      refine w_iload_n (n := 42) O dX3_put_41 rfl rfl rfl ?_
      refine w_iload_n (n := 43) O dX3_put_42 rfl rfl rfl ?_
      refine w_iastA (n := 44) O dX3_put_43 hW.2.1 (by omega) hS.2 (by omega) (by decide) rfl ?_
      refine w_vret O dX3_put_44 ?_
      have e : laneV la v = v := by unfold laneV; rw [if_neg (by omega), if_neg (by omega)]
      rw [e] at hQ
      exact hQ _ ⟨((va_up_ne _ _ (by omega)).trans hS.1), (va_up_self _ _ _)⟩ (sm.rf.up (by omega) (by omega))
    · skip
      refine w_aload_n (n := 27) O dX3_put_26 rfl rfl rfl ?_
      refine w_getf (n := 30) O 0 dX3_put_27 (by omega) hS.1 rfl (by decide) uX3 uf_X3_9 rfl rfl ?_
      refine w_iload_n (n := 31) O dX3_put_30 rfl rfl rfl ?_
      refine w_iload_n (n := 32) O dX3_put_31 rfl rfl rfl ?_
      refine w_i2s (n := 33) O dX3_put_32 rfl ?_
      refine w_iastA (n := 34) O dX3_put_33 hW.2.1 (by omega) hS.2 (by omega) (by decide) rfl ?_
      refine w_goto (tgt := 44) O dX3_put_34 (by decide) ?_
      refine w_vret O dX3_put_44 ?_
      have e : laneV la v = v.toInt16.toInt32 := by unfold laneV; rw [if_neg (by omega), if_pos (by omega)]
      rw [e] at hQ
      exact hQ _ ⟨((va_up_ne _ _ (by omega)).trans hS.1), (va_up_self _ _ _)⟩ (sm.rf.up (by omega) (by omega))
  · skip
    refine w_aload_n (n := 8) O dX3_put_7 rfl rfl rfl ?_
    refine w_getf (n := 11) O 0 dX3_put_8 (by omega) hS.1 rfl (by decide) uX3 uf_X3_9 rfl rfl ?_
    refine w_iload_n (n := 12) O dX3_put_11 rfl rfl rfl ?_
    refine w_iload_n (n := 13) O dX3_put_12 rfl rfl rfl ?_
    refine w_i2b (n := 14) O dX3_put_13 rfl ?_
    refine w_iastA (n := 15) O dX3_put_14 hW.2.1 (by omega) hS.2 (by omega) (by decide) rfl ?_
    refine w_goto (tgt := 44) O dX3_put_15 (by decide) ?_
    refine w_vret O dX3_put_44 ?_
    have e : laneV la v = v.toInt8.toInt32 := by unfold laneV; rw [if_pos (by omega)]
    rw [e] at hQ
    exact hQ _ ⟨((va_up_ne _ _ (by omega)).trans hS.1), (va_up_self _ _ _)⟩ (sm.rf.up (by omega) (by omega))
