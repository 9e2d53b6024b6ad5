/-! THE MODEL'S READER -/
def isR (G : gb_G) (M : gb_M) (Y : Nat → Int32) (bs rp : Nat → Nat) (ln rg : Nat) (ia : Bool) (ht ad hw br ba sp he tk va : Nat) : Prop :=
  M 49 = (.inr (7, [.ref (gb_ad G 50), .int (Y 1), .ref (gb_ad G 51), .int (nI (rg)), .int (bI (ia)), .int (nI (ht)), .int (nI (ad)), .int (dI hw), .ref (gb_ad G 52), .int (nI (ln)), .int (Y 10), .int (nI (br)), .int (nI (ba)), .int (nI (sp)), .int (nI (he)), .int (nI (tk)), .int (nI (va)), .ref (gb_ad G 53), .ref (gb_ad G 54), .int (Y 19), .int (Y 20), .int (Y 21), .int (Y 22), .ref (gb_ad G 55), .int (Y 24), .ref (gb_ad G 56), .int (Y 26), .ref (gb_ad G 57), .ref (gb_ad G 58), .ref (gb_ad G 59), .ref (gb_ad G 60), .int (Y 31)])) ∧ M 51 = IA G 30 (pgI rp) ∧ M 52 = IN G 160 bs ∧ M 53 = IN G 13 gb_cut ∧ M 54 = IN G 52 gb_let
def byI (bs : Nat → Nat) (ln k : Nat) : Int32 := if k < ln then nI (bs k) else -4
theorem byI_eq {bs : Nat → Nat} {ln k v : Nat} (hb : ∀ k, k < ln → bs k ≤ 127) (hv : v < 2 ^ 31) : byI bs ln k = nI v ↔ k < ln ∧ bs k = v := by
  unfold byI
  by_cases h : k < ln
  · rw [if_pos h]
    have := hb k h
    rw [nI_eq (by omega) hv]
    exact ⟨fun e => ⟨h, e⟩, fun e => e.2⟩
  · rw [if_neg h]
    exact ⟨fun e => absurd e (nI_neg4 hv), fun e => absurd e.1 h⟩
theorem byI_n {bs : Nat → Nat} {ln k : Nat} (hb : ∀ k, k < ln → bs k ≤ 127) (h : byI bs ln k = -4) : ln ≤ k := by
  unfold byI at h
  by_cases q : k < ln
  · rw [if_pos q] at h
    have := hb k q
    exact absurd h.symm (nI_neg4 (by omega))
  · omega
theorem byI_s {bs : Nat → Nat} {ln k : Nat} (h : ¬ byI bs ln k = -4) : k < ln := by
  unfold byI at h
  by_cases q : k < ln
  · exact q
  · rw [if_neg q] at h; exact absurd rfl h
theorem byI_at {bs : Nat → Nat} {ln k : Nat} (h : k < ln) : byI bs ln k = nI (bs k) := if_pos h
theorem byI_in {bs : Nat → Nat} {ln k lo hi : Nat} (hb : ∀ k, k < ln → bs k ≤ 127) (hl : lo < 2 ^ 31) (hh : hi < 2 ^ 31) : wIn (byI bs ln k) (nI lo) (nI hi) = true ↔ k < ln ∧ lo ≤ bs k ∧ bs k ≤ hi := by
  unfold byI
  by_cases h : k < ln
  · rw [if_pos h]
    have := hb k h
    rw [wIn_n (by omega) hh hl]
    simp [h]
  · rw [if_neg h]
    refine ⟨fun e => ?_, fun e => absurd e.1 h⟩
    unfold wIn at e
    rw [Bool.and_eq_true, decide_eq_true_eq, decide_eq_true_eq] at e
    have h1 := Int32.le_iff_toInt_le.mp e.1
    rw [nI_toInt hl] at h1
    have h2 : (-4 : Int32).toInt = -4 := by decide
    omega
theorem byI_inf {bs : Nat → Nat} {ln k lo hi : Nat} (hb : ∀ k, k < ln → bs k ≤ 127) (hl : lo < 2 ^ 31) (hh : hi < 2 ^ 31) (h : wIn (byI bs ln k) (nI lo) (nI hi) = false) : ¬ (k < ln ∧ lo ≤ bs k ∧ bs k ≤ hi) := fun z => by
  rw [(byI_in hb hl hh).mpr z] at h; exact absurd h (by decide)
/-- the token at e has been taken, or there is a fault -/
def LxS (bs : Nat → Nat) (ln : Nat) (F : Nat × Nat) (e ba sp he tk va : Nat) : Prop := he ≤ sp ∧ sp ≤ ln ∧ tk ≤ 3 ∧ va ≤ 99 ∧ F.1 ≤ 6 ∧ (¬ F.1 = 0 → ba = F.2) ∧ (F.1 = 0 → he = tkB bs ln e ∧ sp = tkE bs ln e ∧ tk + 1 = tkS bs ln e ∧ (tkS bs ln e = 3 → va = tkV bs ln e))
def PM (G : gb_G) (M : gb_M) (Y : Nat → Int32) (bs rp : Nat → Nat) (ln rg : Nat) (ia : Bool) (ht ad hw : Nat) (F : Nat × Nat) (e : Nat) : Prop := ∃ ba sp he tk va, isR G M Y bs rp ln rg ia ht ad hw F.1 ba sp he tk va ∧ LxS bs ln F e ba sp he tk va ∧ e ≤ ln
/-- a number's first figures -/
def nuP (bs : Nat → Nat) (b d : Nat) : Nat := if d = 0 then 0 else if d = 1 then bs b - 48 else 10 * (bs b - 48) + bs (b + 1) - 48
theorem nuP_le {bs : Nat → Nat} {b d : Nat} (h : ∀ k, b ≤ k → k < b + d → 48 ≤ bs k ∧ bs k ≤ 57) : nuP bs b d ≤ 99 := by
  unfold nuP
  split
  · omega
  · split
    · have := h b (by omega) (by omega); omega
    · have := h b (by omega) (by omega); have := h (b + 1) (by omega) (by omega); omega
theorem tkS_of {bs : Nat → Nat} {ln p b : Nat} (h : tkB bs ln p = b) : tkS bs ln p = tkSb bs ln b ∧ tkE bs ln p = tkEb bs ln b ∧ tkV bs ln p = numV bs b (tkEb bs ln b) := by
  subst h; exact ⟨rfl, rfl, rfl⟩
set_option maxRecDepth 100000 in
set_option maxHeartbeats 4000000 in
theorem f_X7_byteAt {G : gb_G} (hW : gW G) {Q : Option Value → gb_M → Prop} {mM : gb_M} {Y : Nat → Int32} {bs rp : Nat → Nat} {ln rg : Nat} {ia : Bool} {ht ad hw br ba sp he tk va : Nat} (hR : isR G mM Y bs rp ln rg ia ht ad hw br ba sp he tk va) (hln : ln ≤ 160) (hbs : ∀ k, k < ln → bs k ≤ 127) {k : Nat} (hk4 : k ≤ 400)  (hQ : Q (some (.int (byI bs ln k))) mM) : Fn G 0 yX7_byteAt cX7_byteAt 2 (some .int) [.ref (gb_ad G 49), .int (nI (k))] mM Q := by
  have hN := hW.2.2.1
  refine Fn.of hW.1 [(0, .ref (gb_ad G 49)), (1, .int (nI (k)))] (by decide) (Nat.le_of_ble_eq_true rfl) rfl ?_
  intro X O
  refine w_iload_n (n := 1) O dX7_byteAt_0 rfl rfl rfl ?_
  refine w_aload_n (n := 2) O dX7_byteAt_1 rfl rfl rfl ?_
  refine w_getf (n := 5) O 9 dX7_byteAt_2 (by omega) hR.1 rfl (by decide) uX7 uf_X7_54 rfl rfl ?_
  refine w_icmp_geN (n := 8) (tgt := 17) O dX7_byteAt_5 (by omega) (by omega) (by decide) rfl (fun c_1 => ?_) (fun c_1 => ?_)
  · skip
    refine w_bipush (n := 19) O dX7_byteAt_17 (v := (-4)) (by decide) rfl ?_
    refine w_iret O dX7_byteAt_19 ?_
    have e : byI bs ln k = (-4) := if_neg (by omega)
    rw [e] at hQ
    exact hQ
  · skip
    refine w_aload_n (n := 9) O dX7_byteAt_8 rfl rfl rfl ?_
    refine w_getf (n := 12) O 8 dX7_byteAt_9 (by omega) hR.1 rfl (by decide) uX7 uf_X7_16 rfl rfl ?_
    refine w_iload_n (n := 13) O dX7_byteAt_12 rfl rfl rfl ?_
    refine w_ialdN (n := 14) O dX7_byteAt_13 hW.2.1 (by omega) hR.2.2.1 (by omega) (by decide) rfl ?_
    refine w_goto (tgt := 19) O dX7_byteAt_14 (by decide) ?_
    refine w_iret O dX7_byteAt_19 ?_
    have e : byI bs ln k = (nI (bs (k))) := if_pos c_1
    rw [e] at hQ
    exact hQ
set_option maxRecDepth 100000 in
set_option maxHeartbeats 4000000 in
theorem f_X7_fails {G : gb_G} (hW : gW G) {Q : Option Value → gb_M → Prop} {mM : gb_M} {Y : Nat → Int32} {bs rp : Nat → Nat} {ln rg : Nat} {ia : Bool} {ht ad hw ba sp he tk va : Nat} (hR : isR G mM Y bs rp ln rg ia ht ad hw 0 ba sp he tk va) (hln : ln ≤ 160) (hbs : ∀ k, k < ln → bs k ≤ 127) {c : Nat}  (hQ : ∀ M', isR G M' Y bs rp ln rg ia ht ad hw c he sp he tk va → sm mM M' 49 49 → Q none M') : Fn G 0 yX7_fails cX7_fails 2 none [.ref (gb_ad G 49), .int (nI (c))] mM Q := by
  have hN := hW.2.2.1
  refine Fn.of hW.1 [(0, .ref (gb_ad G 49)), (1, .int (nI (c)))] (by decide) (Nat.le_of_ble_eq_true rfl) rfl ?_
  intro X O
  refine w_aload_n (n := 1) O dX7_fails_0 rfl rfl rfl ?_
  refine w_getf (n := 4) O 11 dX7_fails_1 (by omega) hR.1 rfl (by decide) uX7 uf_X7_57 rfl rfl ?_
  refine w_if_neN (n := 7) (tgt := 20) O dX7_fails_4 (by omega) (by decide) rfl (fun c_1 => absurd rfl c_1) (fun c_1 => ?_)
  refine w_aload_n (n := 8) O dX7_fails_7 rfl rfl rfl ?_
  refine w_iload_n (n := 9) O dX7_fails_8 rfl rfl rfl ?_
  refine w_putf (n := 12) (fs' := [.ref (gb_ad G 50), .int (Y 1), .ref (gb_ad G 51), .int (nI (rg)), .int (bI (ia)), .int (nI (ht)), .int (nI (ad)), .int (dI hw), .ref (gb_ad G 52), .int (nI (ln)), .int (Y 10), .int (nI (c)), .int (nI (ba)), .int (nI (sp)), .int (nI (he)), .int (nI (tk)), .int (nI (va)), .ref (gb_ad G 53), .ref (gb_ad G 54), .int (Y 19), .int (Y 20), .int (Y 21), .int (Y 22), .ref (gb_ad G 55), .int (Y 24), .ref (gb_ad G 56), .int (Y 26), .ref (gb_ad G 57), .ref (gb_ad G 58), .ref (gb_ad G 59), .ref (gb_ad G 60), .int (Y 31)]) O 11 dX7_fails_9 (by omega) hR.1 rfl (by decide) uX7 uf_X7_57 tyX7 tyX7_ok nmX7 rfl rfl rfl (Nat.le_of_ble_eq_true rfl) rfl rfl ?_
  refine w_aload_n (n := 13) O dX7_fails_12 rfl rfl rfl ?_
  refine w_aload_n (n := 14) O dX7_fails_13 rfl rfl rfl ?_
  refine w_getf (n := 17) O 14 dX7_fails_14 (by omega) (va_up_self _ _ _) rfl (by decide) uX7 uf_X7_60 rfl rfl ?_
  refine w_putf (n := 20) (fs' := [.ref (gb_ad G 50), .int (Y 1), .ref (gb_ad G 51), .int (nI (rg)), .int (bI (ia)), .int (nI (ht)), .int (nI (ad)), .int (dI hw), .ref (gb_ad G 52), .int (nI (ln)), .int (Y 10), .int (nI (c)), .int (nI (he)), .int (nI (sp)), .int (nI (he)), .int (nI (tk)), .int (nI (va)), .ref (gb_ad G 53), .ref (gb_ad G 54), .int (Y 19), .int (Y 20), .int (Y 21), .int (Y 22), .ref (gb_ad G 55), .int (Y 24), .ref (gb_ad G 56), .int (Y 26), .ref (gb_ad G 57), .ref (gb_ad G 58), .ref (gb_ad G 59), .ref (gb_ad G 60), .int (Y 31)]) O 12 dX7_fails_17 (by omega) (va_up_self _ _ _) rfl (by decide) uX7 uf_X7_63 tyX7 tyX7_ok nmX7 rfl rfl rfl (Nat.le_of_ble_eq_true rfl) rfl rfl ?_
  refine w_vret O dX7_fails_20 ?_
  exact hQ _ ⟨(va_up_self _ _ _), ((va_up_ne _ _ (by decide)).trans ((va_up_ne _ _ (by decide)).trans hR.2.1)), ((va_up_ne _ _ (by decide)).trans ((va_up_ne _ _ (by decide)).trans hR.2.2.1)), ((va_up_ne _ _ (by decide)).trans ((va_up_ne _ _ (by decide)).trans hR.2.2.2.1)), ((va_up_ne _ _ (by decide)).trans ((va_up_ne _ _ (by decide)).trans hR.2.2.2.2))⟩ ((sm.rf.up (by omega) (by omega)).up (by omega) (by omega))
set_option maxRecDepth 100000 in
set_option maxHeartbeats 4000000 in
theorem f_X7_step0 {G : gb_G} (hW : gW G) {Q : Option Value → gb_M → Prop} {mM : gb_M} {Y : Nat → Int32} {bs rp : Nat → Nat} {ln rg : Nat} {ia : Bool} {ht ad hw br ba sp he tk va : Nat} (hR : isR G mM Y bs rp ln rg ia ht ad hw br ba sp he tk va) (hln : ln ≤ 160) (hbs : ∀ k, k < ln → bs k ≤ 127) (hbr : ¬ br = 0) (hb6 : br ≤ 6)  (hQ : Q none mM) : Fn G 1 yX7_step cX7_step 2 none [.ref (gb_ad G 49)] mM Q := by
  have hN := hW.2.2.1
  refine Fn.of hW.1 [(0, .ref (gb_ad G 49))] (by decide) (Nat.le_of_ble_eq_true rfl) rfl ?_
  intro X O
  refine w_aload_n (n := 1) O dX7_step_0 rfl rfl rfl ?_
  refine w_getf (n := 4) O 11 dX7_step_1 (by omega) hR.1 rfl (by decide) uX7 uf_X7_57 rfl rfl ?_
  refine w_if_leN (n := 7) (tgt := 8) O dX7_step_4 (by omega) (by decide) rfl (fun c_1 => absurd c_1 hbr) (fun c_1 => ?_)
  refine w_vret O dX7_step_7 ?_
  exact hQ
set_option maxRecDepth 100000 in
set_option maxHeartbeats 4000000 in
theorem f_X7_step1 {G : gb_G} (hW : gW G) {Q : Option Value → gb_M → Prop} {mM : gb_M} {Y : Nat → Int32} {bs rp : Nat → Nat} {ln rg : Nat} {ia : Bool} {ht ad hw ba he tk va p : Nat} (hR : isR G mM Y bs rp ln rg ia ht ad hw 0 ba p he tk va) (hln : ln ≤ 160) (hbs : ∀ k, k < ln → bs k ≤ 127) (hpl : p ≤ ln)  (hQ : ∀ M', PM G M' Y bs rp ln rg ia ht ad hw (aT bs ln p, tkB bs ln p) p → sm mM M' 49 49 → Q none M') : Fn G 1 yX7_step cX7_step 2 none [.ref (gb_ad G 49)] mM Q := by
  have hN := hW.2.2.1
  refine Fn.of hW.1 [(0, .ref (gb_ad G 49))] (by decide) (Nat.le_of_ble_eq_true rfl) rfl ?_
  intro X O
  refine w_aload_n (n := 1) O dX7_step_0 rfl rfl rfl ?_
  refine w_getf (n := 4) O 11 dX7_step_1 (by omega) hR.1 rfl (by decide) uX7 uf_X7_57 rfl rfl ?_
  refine w_if_leN (n := 7) (tgt := 8) O dX7_step_4 (by omega) (by decide) rfl (fun c_1 => ?_) (fun c_1 => absurd rfl (Nat.ne_of_gt c_1))
  have S1 : ∀ (k : Nat) (sp1 : Nat) (m1 : gb_M), ln - sp1 = k → sp1 ≤ ln → tkB bs ln p = rn bs ln 32 32 sp1 → m1 49 = (.inr (7, [.ref (gb_ad G 50), .int (Y 1), .ref (gb_ad G 51), .int (nI (rg)), .int (bI (ia)), .int (nI (ht)), .int (nI (ad)), .int (dI hw), .ref (gb_ad G 52), .int (nI (ln)), .int (Y 10), .int (nI 0), .int (nI (ba)), .int (nI (sp1)), .int (nI (he)), .int (nI (tk)), .int (nI (va)), .ref (gb_ad G 53), .ref (gb_ad G 54), .int (Y 19), .int (Y 20), .int (Y 21), .int (Y 22), .ref (gb_ad G 55), .int (Y 24), .ref (gb_ad G 56), .int (Y 26), .ref (gb_ad G 57), .ref (gb_ad G 58), .ref (gb_ad G 59), .ref (gb_ad G 60), .int (Y 31)])) → sm mM m1 49 49 → Wm G X 2 Q 8 [(0, .ref (gb_ad G 49))] [] m1 := by
    intro k
    induction k using Nat.strongRecOn with
    | ind k ih_S1 =>
      intro sp1 m1 hk hsp hrn h491 hs1
      refine w_aload_n (n := 9) O dX7_step_8 rfl rfl rfl ?_
      refine w_aload_n (n := 10) O dX7_step_9 rfl rfl rfl ?_
      refine w_getf (n := 13) O 13 dX7_step_10 (by omega) h491 rfl (by decide) uX7 uf_X7_69 rfl rfl ?_
      refine w_cV (n := 16) (ro := some (.int (byI bs ln sp1))) (R := fun mM' => m1 = mM') (st := []) (st1 := [.int (byI bs ln sp1)]) (As := [.int (nI (sp1))]) (b := 49) O dX7_step_13 ul_X7_72 um_X7_byteAt (f_X7_byteAt hW ⟨h491, ((hs1 (51) (by omega)).trans hR.2.1), ((hs1 (52) (by omega)).trans hR.2.2.1), ((hs1 (53) (by omega)).trans hR.2.2.2.1), ((hs1 (54) (by omega)).trans hR.2.2.2.2)⟩ hln hbs (by omega) ⟨rfl, rfl⟩) rfl (by omega) h491 rfl rfl rfl rfl (by decide) (Nat.le_of_ble_eq_true rfl) rfl (fun mhM_2 hM_2 => ?_)
      subst hM_2
      refine w_bipush (n := 18) O dX7_step_16 (v := (nI 32)) (by decide) rfl ?_
      refine w_icmp_ne (n := 21) (tgt := 34) O dX7_step_18 (by decide) rfl (fun c_3 => ?_) (fun c_3 => ?_)
      · skip
        have hB : tkB bs ln p = sp1 := by rw [hrn]; exact rn_stop (fun z => c_3 ((byI_eq hbs (by decide)).mpr ⟨z.1, by omega⟩))
        obtain ⟨hS0, hE0, hV0⟩ := tkS_of hB
        refine w_aload_n (n := 35) O dX7_step_34 rfl rfl rfl ?_
        refine w_aload_n (n := 36) O dX7_step_35 rfl rfl rfl ?_
        refine w_getf (n := 39) O 13 dX7_step_36 (by omega) h491 rfl (by decide) uX7 uf_X7_69 rfl rfl ?_
        refine w_putf (n := 42) (fs' := [.ref (gb_ad G 50), .int (Y 1), .ref (gb_ad G 51), .int (nI (rg)), .int (bI (ia)), .int (nI (ht)), .int (nI (ad)), .int (dI hw), .ref (gb_ad G 52), .int (nI (ln)), .int (Y 10), .int (nI 0), .int (nI (ba)), .int (nI (sp1)), .int (nI (sp1)), .int (nI (tk)), .int (nI (va)), .ref (gb_ad G 53), .ref (gb_ad G 54), .int (Y 19), .int (Y 20), .int (Y 21), .int (Y 22), .ref (gb_ad G 55), .int (Y 24), .ref (gb_ad G 56), .int (Y 26), .ref (gb_ad G 57), .ref (gb_ad G 58), .ref (gb_ad G 59), .ref (gb_ad G 60), .int (Y 31)]) O 14 dX7_step_39 (by omega) h491 rfl (by decide) uX7 uf_X7_60 tyX7 tyX7_ok nmX7 rfl rfl rfl (Nat.le_of_ble_eq_true rfl) rfl rfl ?_
        refine w_aload_n (n := 43) O dX7_step_42 rfl rfl rfl ?_
        refine w_aload_n (n := 44) O dX7_step_43 rfl rfl rfl ?_
        refine w_getf (n := 47) O 13 dX7_step_44 (by omega) (va_up_self _ _ _) rfl (by decide) uX7 uf_X7_69 rfl rfl ?_
        refine w_cV (n := 50) (ro := some (.int (byI bs ln sp1))) (R := fun mM' => (va_up m1 (49) (.inr (7, [.ref (gb_ad G 50), .int (Y 1), .ref (gb_ad G 51), .int (nI (rg)), .int (bI (ia)), .int (nI (ht)), .int (nI (ad)), .int (dI hw), .ref (gb_ad G 52), .int (nI (ln)), .int (Y 10), .int (nI 0), .int (nI (ba)), .int (nI (sp1)), .int (nI (sp1)), .int (nI (tk)), .int (nI (va)), .ref (gb_ad G 53), .ref (gb_ad G 54), .int (Y 19), .int (Y 20), .int (Y 21), .int (Y 22), .ref (gb_ad G 55), .int (Y 24), .ref (gb_ad G 56), .int (Y 26), .ref (gb_ad G 57), .ref (gb_ad G 58), .ref (gb_ad G 59), .ref (gb_ad G 60), .int (Y 31)]))) = mM') (st := []) (st1 := [.int (byI bs ln sp1)]) (As := [.int (nI (sp1))]) (b := 49) O dX7_step_47 ul_X7_72 um_X7_byteAt (f_X7_byteAt hW ⟨(va_up_self _ _ _), ((va_up_ne _ _ (by decide)).trans ((hs1 (51) (by omega)).trans hR.2.1)), ((va_up_ne _ _ (by decide)).trans ((hs1 (52) (by omega)).trans hR.2.2.1)), ((va_up_ne _ _ (by decide)).trans ((hs1 (53) (by omega)).trans hR.2.2.2.1)), ((va_up_ne _ _ (by decide)).trans ((hs1 (54) (by omega)).trans hR.2.2.2.2))⟩ hln hbs (by omega) ⟨rfl, rfl⟩) rfl (by omega) (va_up_self _ _ _) rfl rfl rfl rfl (by decide) (Nat.le_of_ble_eq_true rfl) rfl (fun mhM_4 hM_4 => ?_)
        subst hM_4
        refine w_istore_n (n := 51) (lv' := [(1, .int (byI bs ln sp1)), (0, .ref (gb_ad G 49))]) O dX7_step_50 rfl (by decide) rfl rfl ?_
        refine w_aload_n (n := 52) O dX7_step_51 rfl rfl rfl ?_
        refine w_iconst (n := 53) O dX7_step_52 (v := (nI 0)) (by decide) rfl ?_
        refine w_putf (n := 56) (fs' := [.ref (gb_ad G 50), .int (Y 1), .ref (gb_ad G 51), .int (nI (rg)), .int (bI (ia)), .int (nI (ht)), .int (nI (ad)), .int (dI hw), .ref (gb_ad G 52), .int (nI (ln)), .int (Y 10), .int (nI 0), .int (nI (ba)), .int (nI (sp1)), .int (nI (sp1)), .int (nI (tk)), .int (nI 0), .ref (gb_ad G 53), .ref (gb_ad G 54), .int (Y 19), .int (Y 20), .int (Y 21), .int (Y 22), .ref (gb_ad G 55), .int (Y 24), .ref (gb_ad G 56), .int (Y 26), .ref (gb_ad G 57), .ref (gb_ad G 58), .ref (gb_ad G 59), .ref (gb_ad G 60), .int (Y 31)]) O 16 dX7_step_53 (by omega) (va_up_self _ _ _) rfl (by decide) uX7 uf_X7_76 tyX7 tyX7_ok nmX7 rfl rfl rfl (Nat.le_of_ble_eq_true rfl) rfl rfl ?_
        refine w_iload_n (n := 57) O dX7_step_56 rfl rfl rfl ?_
        refine w_bipush (n := 59) O dX7_step_57 (v := (-4)) (by decide) rfl ?_
        refine w_icmp_ne (n := 62) (tgt := 70) O dX7_step_59 (by decide) rfl (fun c_5 => ?_) (fun c_5 => ?_)
        · skip
          have hlt := byI_s c_5
          have hb7 := hbs sp1 hlt
          rw [byI_at hlt]
          refine w_iload_n (n := 71) O dX7_step_70 rfl rfl rfl ?_
          refine w_i2l (n := 72) O dX7_step_71 rfl ?_
          refine w_ldc2 (n := 75) O dX7_step_72 uc_X7_79 rfl ?_
          refine w_topl (lN 97) (by decide) ?_
          refine w_ldc2 (n := 78) O dX7_step_75 uc_X7_81 rfl ?_
          refine w_topl (lN 122) (by decide) ?_
          refine w_cS (n := 81) (ro := some (.int (bI (wIn (nI (bs sp1)) (nI 97) (nI 122))))) (R := fun mM' => (va_up (va_up m1 (49) (.inr (7, [.ref (gb_ad G 50), .int (Y 1), .ref (gb_ad G 51), .int (nI (rg)), .int (bI (ia)), .int (nI (ht)), .int (nI (ad)), .int (dI hw), .ref (gb_ad G 52), .int (nI (ln)), .int (Y 10), .int (nI 0), .int (nI (ba)), .int (nI (sp1)), .int (nI (sp1)), .int (nI (tk)), .int (nI (va)), .ref (gb_ad G 53), .ref (gb_ad G 54), .int (Y 19), .int (Y 20), .int (Y 21), .int (Y 22), .ref (gb_ad G 55), .int (Y 24), .ref (gb_ad G 56), .int (Y 26), .ref (gb_ad G 57), .ref (gb_ad G 58), .ref (gb_ad G 59), .ref (gb_ad G 60), .int (Y 31)]))) (49) (.inr (7, [.ref (gb_ad G 50), .int (Y 1), .ref (gb_ad G 51), .int (nI (rg)), .int (bI (ia)), .int (nI (ht)), .int (nI (ad)), .int (dI hw), .ref (gb_ad G 52), .int (nI (ln)), .int (Y 10), .int (nI 0), .int (nI (ba)), .int (nI (sp1)), .int (nI (sp1)), .int (nI (tk)), .int (nI 0), .ref (gb_ad G 53), .ref (gb_ad G 54), .int (Y 19), .int (Y 20), .int (Y 21), .int (Y 22), .ref (gb_ad G 55), .int (Y 24), .ref (gb_ad G 56), .int (Y 26), .ref (gb_ad G 57), .ref (gb_ad G 58), .ref (gb_ad G 59), .ref (gb_ad G 60), .int (Y 31)]))) = mM') (st := []) (st1 := [.int (bI (wIn (nI (bs sp1)) (nI 97) (nI 122)))]) (As := [.long ((nI (bs sp1)).toInt64), .long (lN 97), .long (lN 122)]) O dX7_step_78 ul_X7_50 um_X7_in (f_X7_in (x := (nI (bs sp1))) (y := (nI 97)) (z := (nI 122)) hW rfl (nI_l (by decide)).symm (nI_l (by decide)).symm ⟨rfl, rfl⟩) rfl rfl rfl (by decide) (Nat.le_of_ble_eq_true rfl) rfl (fun mhM_6 hM_6 => ?_)
          subst hM_6
          refine w_if_eqB (n := 84) (tgt := 126) O dX7_step_81 (by decide) rfl (fun c_7 => ?_) (fun c_7 => ?_)
          · skip
            have hnl : ¬ sp1 < rn bs ln 97 122 sp1 := fun z => by have z2 := rn_lt.mp z; rw [wIn_n (by omega) (by decide) (by decide), decide_eq_true z2.2.1, decide_eq_true z2.2.2] at c_7; exact absurd c_7 (by decide)
            refine w_iload_n (n := 127) O dX7_step_126 rfl rfl rfl ?_
            refine w_i2l (n := 128) O dX7_step_127 rfl ?_
            refine w_ldc2 (n := 131) O dX7_step_128 uc_X7_83 rfl ?_
            refine w_topl (lN 48) (by decide) ?_
            refine w_ldc2 (n := 134) O dX7_step_131 uc_X7_85 rfl ?_
            refine w_topl (lN 57) (by decide) ?_
            refine w_cS (n := 137) (ro := some (.int (bI (wIn (nI (bs sp1)) (nI 48) (nI 57))))) (R := fun mM' => (va_up (va_up m1 (49) (.inr (7, [.ref (gb_ad G 50), .int (Y 1), .ref (gb_ad G 51), .int (nI (rg)), .int (bI (ia)), .int (nI (ht)), .int (nI (ad)), .int (dI hw), .ref (gb_ad G 52), .int (nI (ln)), .int (Y 10), .int (nI 0), .int (nI (ba)), .int (nI (sp1)), .int (nI (sp1)), .int (nI (tk)), .int (nI (va)), .ref (gb_ad G 53), .ref (gb_ad G 54), .int (Y 19), .int (Y 20), .int (Y 21), .int (Y 22), .ref (gb_ad G 55), .int (Y 24), .ref (gb_ad G 56), .int (Y 26), .ref (gb_ad G 57), .ref (gb_ad G 58), .ref (gb_ad G 59), .ref (gb_ad G 60), .int (Y 31)]))) (49) (.inr (7, [.ref (gb_ad G 50), .int (Y 1), .ref (gb_ad G 51), .int (nI (rg)), .int (bI (ia)), .int (nI (ht)), .int (nI (ad)), .int (dI hw), .ref (gb_ad G 52), .int (nI (ln)), .int (Y 10), .int (nI 0), .int (nI (ba)), .int (nI (sp1)), .int (nI (sp1)), .int (nI (tk)), .int (nI 0), .ref (gb_ad G 53), .ref (gb_ad G 54), .int (Y 19), .int (Y 20), .int (Y 21), .int (Y 22), .ref (gb_ad G 55), .int (Y 24), .ref (gb_ad G 56), .int (Y 26), .ref (gb_ad G 57), .ref (gb_ad G 58), .ref (gb_ad G 59), .ref (gb_ad G 60), .int (Y 31)]))) = mM') (st := []) (st1 := [.int (bI (wIn (nI (bs sp1)) (nI 48) (nI 57)))]) (As := [.long ((nI (bs sp1)).toInt64), .long (lN 48), .long (lN 57)]) O dX7_step_134 ul_X7_50 um_X7_in (f_X7_in (x := (nI (bs sp1))) (y := (nI 48)) (z := (nI 57)) hW rfl (nI_l (by decide)).symm (nI_l (by decide)).symm ⟨rfl, rfl⟩) rfl rfl rfl (by decide) (Nat.le_of_ble_eq_true rfl) rfl (fun mhM_8 hM_8 => ?_)
            subst hM_8
            refine w_if_eqB (n := 140) (tgt := 243) O dX7_step_137 (by decide) rfl (fun c_9 => ?_) (fun c_9 => ?_)
            · skip
              have hnd : ¬ sp1 < rn bs ln 48 57 sp1 := fun z => by have z2 := rn_lt.mp z; rw [wIn_n (by omega) (by decide) (by decide), decide_eq_true z2.2.1, decide_eq_true z2.2.2] at c_9; exact absurd c_9 (by decide)
              refine w_aload_n (n := 244) O dX7_step_243 rfl rfl rfl ?_
              refine w_iconst (n := 245) O dX7_step_244 (v := (nI 3)) (by decide) rfl ?_
              refine w_putf (n := 248) (fs' := [.ref (gb_ad G 50), .int (Y 1), .ref (gb_ad G 51), .int (nI (rg)), .int (bI (ia)), .int (nI (ht)), .int (nI (ad)), .int (dI hw), .ref (gb_ad G 52), .int (nI (ln)), .int (Y 10), .int (nI 0), .int (nI (ba)), .int (nI (sp1)), .int (nI (sp1)), .int (nI 3), .int (nI 0), .ref (gb_ad G 53), .ref (gb_ad G 54), .int (Y 19), .int (Y 20), .int (Y 21), .int (Y 22), .ref (gb_ad G 55), .int (Y 24), .ref (gb_ad G 56), .int (Y 26), .ref (gb_ad G 57), .ref (gb_ad G 58), .ref (gb_ad G 59), .ref (gb_ad G 60), .int (Y 31)]) O 15 dX7_step_245 (by omega) (va_up_self _ _ _) rfl (by decide) uX7 uf_X7_66 tyX7 tyX7_ok nmX7 rfl rfl rfl (Nat.le_of_ble_eq_true rfl) rfl rfl ?_
              refine w_aload_n (n := 249) O dX7_step_248 rfl rfl rfl ?_
              refine w_dup (n := 250) O dX7_step_249 rfl rfl ?_
              refine w_getf (n := 253) O 13 dX7_step_250 (by omega) (va_up_self _ _ _) rfl (by decide) uX7 uf_X7_69 rfl rfl ?_
              refine w_iconst (n := 254) O dX7_step_253 (v := (nI 1)) (by decide) rfl ?_
              refine w_iaddN (n := 255) O dX7_step_254 rfl ?_
              refine w_putf (n := 258) (fs' := [.ref (gb_ad G 50), .int (Y 1), .ref (gb_ad G 51), .int (nI (rg)), .int (bI (ia)), .int (nI (ht)), .int (nI (ad)), .int (dI hw), .ref (gb_ad G 52), .int (nI (ln)), .int (Y 10), .int (nI 0), .int (nI (ba)), .int (nI ((sp1 + 1))), .int (nI (sp1)), .int (nI 3), .int (nI 0), .ref (gb_ad G 53), .ref (gb_ad G 54), .int (Y 19), .int (Y 20), .int (Y 21), .int (Y 22), .ref (gb_ad G 55), .int (Y 24), .ref (gb_ad G 56), .int (Y 26), .ref (gb_ad G 57), .ref (gb_ad G 58), .ref (gb_ad G 59), .ref (gb_ad G 60), .int (Y 31)]) O 13 dX7_step_255 (by omega) (va_up_self _ _ _) rfl (by decide) uX7 uf_X7_69 tyX7 tyX7_ok nmX7 rfl rfl rfl (Nat.le_of_ble_eq_true rfl) rfl rfl ?_
              refine w_iload_n (n := 259) O dX7_step_258 rfl rfl rfl ?_
              refine w_bipush (n := 261) O dX7_step_259 (v := (nI 59)) (by decide) rfl ?_
              refine w_icmp_eqN (n := 264) (tgt := 269) O dX7_step_261 (by omega) (by omega) (by decide) rfl (fun c_10 => ?_) (fun c_10 => ?_)
              · skip
                refine w_vret O dX7_step_269 ?_
                have eS : tkS bs ln p = 4 := by rw [hS0]; unfold tkSb; rw [if_neg (by omega), if_neg hnl, if_neg hnd]; exact if_pos c_10
                have eE : tkE bs ln p = (sp1 + 1) := by rw [hE0]; unfold tkEb; rw [if_neg (by omega), if_neg hnl, if_neg hnd]
                have eA : aT bs ln p = 0 := by unfold aT; rw [eS]; rfl
                rw [eA] at hQ
                exact hQ _ ⟨_, _, _, _, _, ⟨(va_up_self _ _ _), ((va_up_ne _ _ (by decide)).trans ((va_up_ne _ _ (by decide)).trans ((va_up_ne _ _ (by decide)).trans ((va_up_ne _ _ (by decide)).trans ((hs1 (51) (by omega)).trans hR.2.1))))), ((va_up_ne _ _ (by decide)).trans ((va_up_ne _ _ (by decide)).trans ((va_up_ne _ _ (by decide)).trans ((va_up_ne _ _ (by decide)).trans ((hs1 (52) (by omega)).trans hR.2.2.1))))), ((va_up_ne _ _ (by decide)).trans ((va_up_ne _ _ (by decide)).trans ((va_up_ne _ _ (by decide)).trans ((va_up_ne _ _ (by decide)).trans ((hs1 (53) (by omega)).trans hR.2.2.2.1))))), ((va_up_ne _ _ (by decide)).trans ((va_up_ne _ _ (by decide)).trans ((va_up_ne _ _ (by decide)).trans ((va_up_ne _ _ (by decide)).trans ((hs1 (54) (by omega)).trans hR.2.2.2.2)))))⟩, ⟨by omega, by omega, by decide, by omega, (show 0 ≤ 6 by decide), (fun z => absurd rfl z), (fun _ => ⟨hB.symm, eE.symm, by rw [eS], fun z => absurd (eS.symm.trans z) (by decide)⟩)⟩, hpl⟩ (((((sm.rf.tr (hs1.mono (by omega) (by omega))).up (by omega) (by omega)).up (by omega) (by omega)).up (by omega) (by omega)).up (by omega) (by omega))
              · skip
                refine w_aload_n (n := 265) O dX7_step_264 rfl rfl rfl ?_
                refine w_iconst (n := 266) O dX7_step_265 (v := (nI 1)) (by decide) rfl ?_
                refine w_cV (n := 269) (ro := none) (R := fun mM' => isR G mM' Y bs rp ln rg ia ht ad hw 1 sp1 (sp1 + 1) sp1 3 0 ∧ sm (va_up (va_up (va_up (va_up m1 (49) (.inr (7, [.ref (gb_ad G 50), .int (Y 1), .ref (gb_ad G 51), .int (nI (rg)), .int (bI (ia)), .int (nI (ht)), .int (nI (ad)), .int (dI hw), .ref (gb_ad G 52), .int (nI (ln)), .int (Y 10), .int (nI 0), .int (nI (ba)), .int (nI (sp1)), .int (nI (sp1)), .int (nI (tk)), .int (nI (va)), .ref (gb_ad G 53), .ref (gb_ad G 54), .int (Y 19), .int (Y 20), .int (Y 21), .int (Y 22), .ref (gb_ad G 55), .int (Y 24), .ref (gb_ad G 56), .int (Y 26), .ref (gb_ad G 57), .ref (gb_ad G 58), .ref (gb_ad G 59), .ref (gb_ad G 60), .int (Y 31)]))) (49) (.inr (7, [.ref (gb_ad G 50), .int (Y 1), .ref (gb_ad G 51), .int (nI (rg)), .int (bI (ia)), .int (nI (ht)), .int (nI (ad)), .int (dI hw), .ref (gb_ad G 52), .int (nI (ln)), .int (Y 10), .int (nI 0), .int (nI (ba)), .int (nI (sp1)), .int (nI (sp1)), .int (nI (tk)), .int (nI 0), .ref (gb_ad G 53), .ref (gb_ad G 54), .int (Y 19), .int (Y 20), .int (Y 21), .int (Y 22), .ref (gb_ad G 55), .int (Y 24), .ref (gb_ad G 56), .int (Y 26), .ref (gb_ad G 57), .ref (gb_ad G 58), .ref (gb_ad G 59), .ref (gb_ad G 60), .int (Y 31)]))) (49) (.inr (7, [.ref (gb_ad G 50), .int (Y 1), .ref (gb_ad G 51), .int (nI (rg)), .int (bI (ia)), .int (nI (ht)), .int (nI (ad)), .int (dI hw), .ref (gb_ad G 52), .int (nI (ln)), .int (Y 10), .int (nI 0), .int (nI (ba)), .int (nI (sp1)), .int (nI (sp1)), .int (nI 3), .int (nI 0), .ref (gb_ad G 53), .ref (gb_ad G 54), .int (Y 19), .int (Y 20), .int (Y 21), .int (Y 22), .ref (gb_ad G 55), .int (Y 24), .ref (gb_ad G 56), .int (Y 26), .ref (gb_ad G 57), .ref (gb_ad G 58), .ref (gb_ad G 59), .ref (gb_ad G 60), .int (Y 31)]))) (49) (.inr (7, [.ref (gb_ad G 50), .int (Y 1), .ref (gb_ad G 51), .int (nI (rg)), .int (bI (ia)), .int (nI (ht)), .int (nI (ad)), .int (dI hw), .ref (gb_ad G 52), .int (nI (ln)), .int (Y 10), .int (nI 0), .int (nI (ba)), .int (nI ((sp1 + 1))), .int (nI (sp1)), .int (nI 3), .int (nI 0), .ref (gb_ad G 53), .ref (gb_ad G 54), .int (Y 19), .int (Y 20), .int (Y 21), .int (Y 22), .ref (gb_ad G 55), .int (Y 24), .ref (gb_ad G 56), .int (Y 26), .ref (gb_ad G 57), .ref (gb_ad G 58), .ref (gb_ad G 59), .ref (gb_ad G 60), .int (Y 31)]))) mM' 49 49) (st := []) (st1 := []) (As := [.int (nI 1)]) (b := 49) O dX7_step_266 ul_X7_87 um_X7_fails (f_X7_fails hW ⟨(va_up_self _ _ _), ((va_up_ne _ _ (by decide)).trans ((va_up_ne _ _ (by decide)).trans ((va_up_ne _ _ (by decide)).trans ((va_up_ne _ _ (by decide)).trans ((hs1 (51) (by omega)).trans hR.2.1))))), ((va_up_ne _ _ (by decide)).trans ((va_up_ne _ _ (by decide)).trans ((va_up_ne _ _ (by decide)).trans ((va_up_ne _ _ (by decide)).trans ((hs1 (52) (by omega)).trans hR.2.2.1))))), ((va_up_ne _ _ (by decide)).trans ((va_up_ne _ _ (by decide)).trans ((va_up_ne _ _ (by decide)).trans ((va_up_ne _ _ (by decide)).trans ((hs1 (53) (by omega)).trans hR.2.2.2.1))))), ((va_up_ne _ _ (by decide)).trans ((va_up_ne _ _ (by decide)).trans ((va_up_ne _ _ (by decide)).trans ((va_up_ne _ _ (by decide)).trans ((hs1 (54) (by omega)).trans hR.2.2.2.2)))))⟩ hln hbs (fun M' h1 h2 => ⟨rfl, h1, h2⟩)) rfl (by omega) (va_up_self _ _ _) rfl rfl rfl rfl (by omega) (Nat.le_of_ble_eq_true rfl) rfl (fun mhM_11 hM_11 => ?_)
                obtain ⟨hRhM_11, hshM_11⟩ := hM_11
                refine w_vret O dX7_step_269 ?_
                have eS : tkS bs ln p = 0 := by rw [hS0]; unfold tkSb; rw [if_neg (by omega), if_neg hnl, if_neg hnd]; exact if_neg c_10
                have eE : tkE bs ln p = (sp1 + 1) := by rw [hE0]; unfold tkEb; rw [if_neg (by omega), if_neg hnl, if_neg hnd]
                have eA : aT bs ln p = 1 := by unfold aT; rw [eS]; rfl
                rw [eA] at hQ
                exact hQ _ ⟨_, _, _, _, _, ⟨hRhM_11.1, hRhM_11.2.1, hRhM_11.2.2.1, hRhM_11.2.2.2.1, hRhM_11.2.2.2.2⟩, ⟨by omega, by omega, by decide, by omega, (show 1 ≤ 6 by decide), (fun _ => hB.symm), (fun z => absurd z (show ¬ 1 = 0 by decide))⟩, hpl⟩ ((((((sm.rf.tr (hs1.mono (by omega) (by omega))).up (by omega) (by omega)).up (by omega) (by omega)).up (by omega) (by omega)).up (by omega) (by omega)).tr (hshM_11.mono (by omega) (by omega)))
            · skip
              have hdig : 48 ≤ bs sp1 ∧ bs sp1 ≤ 57 := by have z := c_9; rw [wIn_n (by omega) (by decide) (by decide), Bool.and_eq_true, decide_eq_true_eq, decide_eq_true_eq] at z; exact z
              have S3 : ∀ (k : Nat) (sp3 va3 : Nat) (m3 : gb_M), ln - sp3 = k → sp3 ≤ ln → sp1 ≤ sp3 → rn bs ln 48 57 sp1 = rn bs ln 48 57 sp3 → (∀ k2, sp1 ≤ k2 → k2 < sp3 → 48 ≤ bs k2 ∧ bs k2 ≤ 57) → va3 = nuP bs sp1 (sp3 - sp1) → m3 49 = (.inr (7, [.ref (gb_ad G 50), .int (Y 1), .ref (gb_ad G 51), .int (nI (rg)), .int (bI (ia)), .int (nI (ht)), .int (nI (ad)), .int (dI hw), .ref (gb_ad G 52), .int (nI (ln)), .int (Y 10), .int (nI 0), .int (nI (ba)), .int (nI (sp3)), .int (nI (sp1)), .int (nI (tk)), .int (nI (va3)), .ref (gb_ad G 53), .ref (gb_ad G 54), .int (Y 19), .int (Y 20), .int (Y 21), .int (Y 22), .ref (gb_ad G 55), .int (Y 24), .ref (gb_ad G 56), .int (Y 26), .ref (gb_ad G 57), .ref (gb_ad G 58), .ref (gb_ad G 59), .ref (gb_ad G 60), .int (Y 31)])) → sm mM m3 49 49 → Wm G X 2 Q 140 [(0, .ref (gb_ad G 49))] [] m3 := by
                intro k
                induction k using Nat.strongRecOn with
                | ind k ih_S3 =>
                  intro sp3 va3 m3 hk hsp3 hsg hrn3 hdg hva h493 hs3
                  have hvl : va3 ≤ 99 := by rw [hva]; exact nuP_le (fun k2 h1 h2 => hdg k2 h1 (by omega))
                  refine w_aload_n (n := 141) O dX7_step_140 rfl rfl rfl ?_
                  refine w_aload_n (n := 142) O dX7_step_141 rfl rfl rfl ?_
                  refine w_getf (n := 145) O 13 dX7_step_142 (by omega) h493 rfl (by decide) uX7 uf_X7_69 rfl rfl ?_
                  refine w_cV (n := 148) (ro := some (.int (byI bs ln sp3))) (R := fun mM' => m3 = mM') (st := []) (st1 := [.int (byI bs ln sp3)]) (As := [.int (nI (sp3))]) (b := 49) O dX7_step_145 ul_X7_72 um_X7_byteAt (f_X7_byteAt hW ⟨h493, ((hs3 (51) (by omega)).trans hR.2.1), ((hs3 (52) (by omega)).trans hR.2.2.1), ((hs3 (53) (by omega)).trans hR.2.2.2.1), ((hs3 (54) (by omega)).trans hR.2.2.2.2)⟩ hln hbs (by omega) ⟨rfl, rfl⟩) rfl (by omega) h493 rfl rfl rfl rfl (by decide) (Nat.le_of_ble_eq_true rfl) rfl (fun mhM_12 hM_12 => ?_)
                  subst hM_12
                  refine w_i2l (n := 149) O dX7_step_148 rfl ?_
                  refine w_ldc2 (n := 152) O dX7_step_149 uc_X7_83 rfl ?_
                  refine w_topl (lN 48) (by decide) ?_
                  refine w_ldc2 (n := 155) O dX7_step_152 uc_X7_85 rfl ?_
                  refine w_topl (lN 57) (by decide) ?_
                  refine w_cS (n := 158) (ro := some (.int (bI (wIn (byI bs ln sp3) (nI 48) (nI 57))))) (R := fun mM' => m3 = mM') (st := []) (st1 := [.int (bI (wIn (byI bs ln sp3) (nI 48) (nI 57)))]) (As := [.long ((byI bs ln sp3).toInt64), .long (lN 48), .long (lN 57)]) O dX7_step_155 ul_X7_50 um_X7_in (f_X7_in (x := (byI bs ln sp3)) (y := (nI 48)) (z := (nI 57)) hW rfl (nI_l (by decide)).symm (nI_l (by decide)).symm ⟨rfl, rfl⟩) rfl rfl rfl (by decide) (Nat.le_of_ble_eq_true rfl) rfl (fun mhM_13 hM_13 => ?_)
                  subst hM_13
                  refine w_if_eqB (n := 161) (tgt := 217) O dX7_step_158 (by decide) rfl (fun c_14 => ?_) (fun c_14 => ?_)
                  · skip
                    have hr3 : rn bs ln 48 57 sp1 = sp3 := by rw [hrn3]; exact rn_stop (byI_inf hbs (by decide) (by decide) c_14)
                    have hg3 : sp1 < sp3 := by rw [← hr3]; exact rn_lt.mpr ⟨hlt, hdig.1, hdig.2⟩
                    refine w_aload_n (n := 218) O dX7_step_217 rfl rfl rfl ?_
                    refine w_iconst (n := 219) O dX7_step_218 (v := (nI 2)) (by decide) rfl ?_
                    refine w_putf (n := 222) (fs' := [.ref (gb_ad G 50), .int (Y 1), .ref (gb_ad G 51), .int (nI (rg)), .int (bI (ia)), .int (nI (ht)), .int (nI (ad)), .int (dI hw), .ref (gb_ad G 52), .int (nI (ln)), .int (Y 10), .int (nI 0), .int (nI (ba)), .int (nI (sp3)), .int (nI (sp1)), .int (nI 2), .int (nI (va3)), .ref (gb_ad G 53), .ref (gb_ad G 54), .int (Y 19), .int (Y 20), .int (Y 21), .int (Y 22), .ref (gb_ad G 55), .int (Y 24), .ref (gb_ad G 56), .int (Y 26), .ref (gb_ad G 57), .ref (gb_ad G 58), .ref (gb_ad G 59), .ref (gb_ad G 60), .int (Y 31)]) O 15 dX7_step_219 (by omega) h493 rfl (by decide) uX7 uf_X7_66 tyX7 tyX7_ok nmX7 rfl rfl rfl (Nat.le_of_ble_eq_true rfl) rfl rfl ?_
                    refine w_aload_n (n := 223) O dX7_step_222 rfl rfl rfl ?_
                    refine w_getf (n := 226) O 13 dX7_step_223 (by omega) (va_up_self _ _ _) rfl (by decide) uX7 uf_X7_69 rfl rfl ?_
                    refine w_aload_n (n := 227) O dX7_step_226 rfl rfl rfl ?_
                    refine w_getf (n := 230) O 14 dX7_step_227 (by omega) (va_up_self _ _ _) rfl (by decide) uX7 uf_X7_60 rfl rfl ?_
                    refine w_isubN (n := 231) O dX7_step_230 (by omega) rfl ?_
                    refine w_iconst (n := 232) O dX7_step_231 (v := (nI 2)) (by decide) rfl ?_
                    refine w_icmp_leN (n := 235) (tgt := 269) O dX7_step_232 (by omega) (by omega) (by decide) rfl (fun c_15 => ?_) (fun c_15 => ?_)
                    · skip
                      refine w_vret O dX7_step_269 ?_
                      have eS : tkS bs ln p = 3 := by rw [hS0]; unfold tkSb; rw [if_neg (by omega), if_neg hnl, if_pos (by rw [hr3]; exact hg3), hr3]; exact if_pos (by omega)
                      have eE : tkE bs ln p = sp3 := by rw [hE0]; unfold tkEb; rw [if_neg (by omega), if_neg hnl, if_pos (by rw [hr3]; exact hg3), hr3]
                      have eA : aT bs ln p = 0 := by unfold aT; rw [eS]; rfl
                      rw [eA] at hQ
                      exact hQ _ ⟨_, _, _, _, _, ⟨(va_up_self _ _ _), ((va_up_ne _ _ (by decide)).trans ((hs3 (51) (by omega)).trans hR.2.1)), ((va_up_ne _ _ (by decide)).trans ((hs3 (52) (by omega)).trans hR.2.2.1)), ((va_up_ne _ _ (by decide)).trans ((hs3 (53) (by omega)).trans hR.2.2.2.1)), ((va_up_ne _ _ (by decide)).trans ((hs3 (54) (by omega)).trans hR.2.2.2.2))⟩, ⟨by omega, by omega, by decide, by omega, (show 0 ≤ 6 by decide), (fun z => absurd rfl z), (fun _ => ⟨hB.symm, eE.symm, by rw [eS], fun _ => by rw [hV0, ← hE0, eE, hva]; unfold nuP numV; rcases (show sp3 - sp1 = 1 ∨ sp3 - sp1 = 2 by omega) with z | z; (rw [z]; rfl); (rw [z]; rfl)⟩)⟩, hpl⟩ ((sm.rf.tr (hs3.mono (by omega) (by omega))).up (by omega) (by omega))
                    · skip
                      refine w_aload_n (n := 236) O dX7_step_235 rfl rfl rfl ?_
                      refine w_iconst (n := 237) O dX7_step_236 (v := (nI 1)) (by decide) rfl ?_
                      refine w_cV (n := 240) (ro := none) (R := fun mM' => isR G mM' Y bs rp ln rg ia ht ad hw 1 sp1 sp3 sp1 2 va3 ∧ sm (va_up m3 (49) (.inr (7, [.ref (gb_ad G 50), .int (Y 1), .ref (gb_ad G 51), .int (nI (rg)), .int (bI (ia)), .int (nI (ht)), .int (nI (ad)), .int (dI hw), .ref (gb_ad G 52), .int (nI (ln)), .int (Y 10), .int (nI 0), .int (nI (ba)), .int (nI (sp3)), .int (nI (sp1)), .int (nI 2), .int (nI (va3)), .ref (gb_ad G 53), .ref (gb_ad G 54), .int (Y 19), .int (Y 20), .int (Y 21), .int (Y 22), .ref (gb_ad G 55), .int (Y 24), .ref (gb_ad G 56), .int (Y 26), .ref (gb_ad G 57), .ref (gb_ad G 58), .ref (gb_ad G 59), .ref (gb_ad G 60), .int (Y 31)]))) mM' 49 49) (st := []) (st1 := []) (As := [.int (nI 1)]) (b := 49) O dX7_step_237 ul_X7_87 um_X7_fails (f_X7_fails hW ⟨(va_up_self _ _ _), ((va_up_ne _ _ (by decide)).trans ((hs3 (51) (by omega)).trans hR.2.1)), ((va_up_ne _ _ (by decide)).trans ((hs3 (52) (by omega)).trans hR.2.2.1)), ((va_up_ne _ _ (by decide)).trans ((hs3 (53) (by omega)).trans hR.2.2.2.1)), ((va_up_ne _ _ (by decide)).trans ((hs3 (54) (by omega)).trans hR.2.2.2.2))⟩ hln hbs (fun M' h1 h2 => ⟨rfl, h1, h2⟩)) rfl (by omega) (va_up_self _ _ _) rfl rfl rfl rfl (by omega) (Nat.le_of_ble_eq_true rfl) rfl (fun mhM_16 hM_16 => ?_)
                      obtain ⟨hRhM_16, hshM_16⟩ := hM_16
                      refine w_goto (tgt := 269) O dX7_step_240 (by decide) ?_
                      refine w_vret O dX7_step_269 ?_
                      have eS : tkS bs ln p = 0 := by rw [hS0]; unfold tkSb; rw [if_neg (by omega), if_neg hnl, if_pos (by rw [hr3]; exact hg3), hr3]; exact if_neg (by omega)
                      have eE : tkE bs ln p = sp3 := by rw [hE0]; unfold tkEb; rw [if_neg (by omega), if_neg hnl, if_pos (by rw [hr3]; exact hg3), hr3]
                      have eA : aT bs ln p = 1 := by unfold aT; rw [eS]; rfl
                      rw [eA] at hQ
                      exact hQ _ ⟨_, _, _, _, _, ⟨hRhM_16.1, hRhM_16.2.1, hRhM_16.2.2.1, hRhM_16.2.2.2.1, hRhM_16.2.2.2.2⟩, ⟨by omega, by omega, by decide, by omega, (show 1 ≤ 6 by decide), (fun _ => hB.symm), (fun z => absurd z (show ¬ 1 = 0 by decide))⟩, hpl⟩ (((sm.rf.tr (hs3.mono (by omega) (by omega))).up (by omega) (by omega)).tr (hshM_16.mono (by omega) (by omega)))
                  · skip
                    have hb3 := (byI_in hbs (by decide) (by decide)).mp c_14
                    have hb37 := hbs sp3 hb3.1
                    refine w_aload_n (n := 162) O dX7_step_161 rfl rfl rfl ?_
                    refine w_aload_n (n := 163) O dX7_step_162 rfl rfl rfl ?_
                    refine w_getf (n := 166) O 13 dX7_step_163 (by omega) h493 rfl (by decide) uX7 uf_X7_69 rfl rfl ?_
                    refine w_aload_n (n := 167) O dX7_step_166 rfl rfl rfl ?_
                    refine w_getf (n := 170) O 14 dX7_step_167 (by omega) h493 rfl (by decide) uX7 uf_X7_60 rfl rfl ?_
                    refine w_isubN (n := 171) O dX7_step_170 (by omega) rfl ?_
                    refine w_iconst (n := 172) O dX7_step_171 (v := (nI 2)) (by decide) rfl ?_
                    refine w_icmp_geN (n := 175) (tgt := 197) O dX7_step_172 (by omega) (by omega) (by decide) rfl (fun c_17 => ?_) (fun c_17 => ?_)
                    · skip
                      refine w_aload_n (n := 198) O dX7_step_197 rfl rfl rfl ?_
                      refine w_getf (n := 201) O 16 dX7_step_198 (by omega) h493 rfl (by decide) uX7 uf_X7_76 rfl rfl ?_
                      have hvn : va3 = nuP bs sp1 (sp3 + 1 - sp1) := by rw [hva]; unfold nuP; rw [if_neg (by omega), if_neg (by omega), if_neg (by omega), if_neg (by omega)]
                      refine w_putf (n := 204) (fs' := [.ref (gb_ad G 50), .int (Y 1), .ref (gb_ad G 51), .int (nI (rg)), .int (bI (ia)), .int (nI (ht)), .int (nI (ad)), .int (dI hw), .ref (gb_ad G 52), .int (nI (ln)), .int (Y 10), .int (nI 0), .int (nI (ba)), .int (nI (sp3)), .int (nI (sp1)), .int (nI (tk)), .int (nI (va3)), .ref (gb_ad G 53), .ref (gb_ad G 54), .int (Y 19), .int (Y 20), .int (Y 21), .int (Y 22), .ref (gb_ad G 55), .int (Y 24), .ref (gb_ad G 56), .int (Y 26), .ref (gb_ad G 57), .ref (gb_ad G 58), .ref (gb_ad G 59), .ref (gb_ad G 60), .int (Y 31)]) O 16 dX7_step_201 (by omega) h493 rfl (by decide) uX7 uf_X7_76 tyX7 tyX7_ok nmX7 rfl rfl rfl (Nat.le_of_ble_eq_true rfl) rfl rfl ?_
                      refine w_aload_n (n := 205) O dX7_step_204 rfl rfl rfl ?_
                      refine w_dup (n := 206) O dX7_step_205 rfl rfl ?_
                      refine w_getf (n := 209) O 13 dX7_step_206 (by omega) (va_up_self _ _ _) rfl (by decide) uX7 uf_X7_69 rfl rfl ?_
                      refine w_iconst (n := 210) O dX7_step_209 (v := (nI 1)) (by decide) rfl ?_
                      refine w_iaddN (n := 211) O dX7_step_210 rfl ?_
                      refine w_putf (n := 214) (fs' := [.ref (gb_ad G 50), .int (Y 1), .ref (gb_ad G 51), .int (nI (rg)), .int (bI (ia)), .int (nI (ht)), .int (nI (ad)), .int (dI hw), .ref (gb_ad G 52), .int (nI (ln)), .int (Y 10), .int (nI 0), .int (nI (ba)), .int (nI ((sp3 + 1))), .int (nI (sp1)), .int (nI (tk)), .int (nI (va3)), .ref (gb_ad G 53), .ref (gb_ad G 54), .int (Y 19), .int (Y 20), .int (Y 21), .int (Y 22), .ref (gb_ad G 55), .int (Y 24), .ref (gb_ad G 56), .int (Y 26), .ref (gb_ad G 57), .ref (gb_ad G 58), .ref (gb_ad G 59), .ref (gb_ad G 60), .int (Y 31)]) O 13 dX7_step_211 (by omega) (va_up_self _ _ _) rfl (by decide) uX7 uf_X7_69 tyX7 tyX7_ok nmX7 rfl rfl rfl (Nat.le_of_ble_eq_true rfl) rfl rfl ?_
                      refine w_goto (tgt := 140) O dX7_step_214 (by decide) ?_
                      refine w_lv (lv2 := [(0, .ref (gb_ad G 49))]) [0] rfl ?_
                      exact ih_S3 _ (by omega) (sp3 + 1) (va3) _ rfl (by omega) (by omega) (by rw [hrn3]; exact rn_go hb3.1 hb3.2.1 hb3.2.2) (fun k2 h1 h2 => by rcases Nat.lt_or_ge k2 sp3 with z | z; exact hdg k2 h1 z; rw [show k2 = sp3 by omega]; exact hb3.2) hvn (va_up_self _ _ _) (((sm.rf.tr (hs3.mono (by omega) (by omega))).up (by omega) (by omega)).up (by omega) (by omega))
                    · skip
                      refine w_bipush (n := 177) O dX7_step_175 (v := (nI 10)) (by decide) rfl ?_
                      refine w_aload_n (n := 178) O dX7_step_177 rfl rfl rfl ?_
                      refine w_getf (n := 181) O 16 dX7_step_178 (by omega) h493 rfl (by decide) uX7 uf_X7_76 rfl rfl ?_
                      refine w_imulN (n := 182) O dX7_step_181 rfl ?_
                      refine w_aload_n (n := 183) O dX7_step_182 rfl rfl rfl ?_
                      refine w_aload_n (n := 184) O dX7_step_183 rfl rfl rfl ?_
                      refine w_getf (n := 187) O 13 dX7_step_184 (by omega) h493 rfl (by decide) uX7 uf_X7_69 rfl rfl ?_
                      refine w_cV (n := 190) (ro := some (.int (byI bs ln sp3))) (R := fun mM' => m3 = mM') (st := [.int (nI ((10 * va3))), .ref (gb_ad G 49)]) (st1 := [.int (byI bs ln sp3), .int (nI ((10 * va3))), .ref (gb_ad G 49)]) (As := [.int (nI (sp3))]) (b := 49) O dX7_step_187 ul_X7_72 um_X7_byteAt (f_X7_byteAt hW ⟨h493, ((hs3 (51) (by omega)).trans hR.2.1), ((hs3 (52) (by omega)).trans hR.2.2.1), ((hs3 (53) (by omega)).trans hR.2.2.2.1), ((hs3 (54) (by omega)).trans hR.2.2.2.2)⟩ hln hbs (by omega) ⟨rfl, rfl⟩) rfl (by omega) h493 rfl rfl rfl rfl (by decide) (Nat.le_of_ble_eq_true rfl) rfl (fun mhM_18 hM_18 => ?_)
                      subst hM_18
                      refine w_top (nI (bs sp3)) (byI_at hb3.1) ?_
                      refine w_iaddN (n := 191) O dX7_step_190 rfl ?_
                      refine w_bipush (n := 193) O dX7_step_191 (v := (nI 48)) (by decide) rfl ?_
                      refine w_isubN (n := 194) O dX7_step_193 (by omega) rfl ?_
                      refine w_goto (tgt := 201) O dX7_step_194 (by decide) ?_
                      have hvn : (((10 * va3) + (bs sp3)) - 48) = nuP bs sp1 (sp3 + 1 - sp1) := by rcases (show sp3 = sp1 ∨ sp3 = sp1 + 1 by omega) with z | z; (subst z; rw [hva]; unfold nuP; rw [if_pos (by omega), if_neg (by omega), if_pos (by omega)]; omega); (subst z; rw [hva]; unfold nuP; rw [if_neg (by omega), if_pos (by omega), if_neg (by omega), if_neg (by omega)])
                      refine w_putf (n := 204) (fs' := [.ref (gb_ad G 50), .int (Y 1), .ref (gb_ad G 51), .int (nI (rg)), .int (bI (ia)), .int (nI (ht)), .int (nI (ad)), .int (dI hw), .ref (gb_ad G 52), .int (nI (ln)), .int (Y 10), .int (nI 0), .int (nI (ba)), .int (nI (sp3)), .int (nI (sp1)), .int (nI (tk)), .int (nI ((((10 * va3) + (bs sp3)) - 48))), .ref (gb_ad G 53), .ref (gb_ad G 54), .int (Y 19), .int (Y 20), .int (Y 21), .int (Y 22), .ref (gb_ad G 55), .int (Y 24), .ref (gb_ad G 56), .int (Y 26), .ref (gb_ad G 57), .ref (gb_ad G 58), .ref (gb_ad G 59), .ref (gb_ad G 60), .int (Y 31)]) O 16 dX7_step_201 (by omega) h493 rfl (by decide) uX7 uf_X7_76 tyX7 tyX7_ok nmX7 rfl rfl rfl (Nat.le_of_ble_eq_true rfl) rfl rfl ?_
                      refine w_aload_n (n := 205) O dX7_step_204 rfl rfl rfl ?_
                      refine w_dup (n := 206) O dX7_step_205 rfl rfl ?_
                      refine w_getf (n := 209) O 13 dX7_step_206 (by omega) (va_up_self _ _ _) rfl (by decide) uX7 uf_X7_69 rfl rfl ?_
                      refine w_iconst (n := 210) O dX7_step_209 (v := (nI 1)) (by decide) rfl ?_
                      refine w_iaddN (n := 211) O dX7_step_210 rfl ?_
                      refine w_putf (n := 214) (fs' := [.ref (gb_ad G 50), .int (Y 1), .ref (gb_ad G 51), .int (nI (rg)), .int (bI (ia)), .int (nI (ht)), .int (nI (ad)), .int (dI hw), .ref (gb_ad G 52), .int (nI (ln)), .int (Y 10), .int (nI 0), .int (nI (ba)), .int (nI ((sp3 + 1))), .int (nI (sp1)), .int (nI (tk)), .int (nI ((((10 * va3) + (bs sp3)) - 48))), .ref (gb_ad G 53), .ref (gb_ad G 54), .int (Y 19), .int (Y 20), .int (Y 21), .int (Y 22), .ref (gb_ad G 55), .int (Y 24), .ref (gb_ad G 56), .int (Y 26), .ref (gb_ad G 57), .ref (gb_ad G 58), .ref (gb_ad G 59), .ref (gb_ad G 60), .int (Y 31)]) O 13 dX7_step_211 (by omega) (va_up_self _ _ _) rfl (by decide) uX7 uf_X7_69 tyX7 tyX7_ok nmX7 rfl rfl rfl (Nat.le_of_ble_eq_true rfl) rfl rfl ?_
                      refine w_goto (tgt := 140) O dX7_step_214 (by decide) ?_
                      refine w_lv (lv2 := [(0, .ref (gb_ad G 49))]) [0] rfl ?_
                      exact ih_S3 _ (by omega) (sp3 + 1) ((((10 * va3) + (bs sp3)) - 48)) _ rfl (by omega) (by omega) (by rw [hrn3]; exact rn_go hb3.1 hb3.2.1 hb3.2.2) (fun k2 h1 h2 => by rcases Nat.lt_or_ge k2 sp3 with z | z; exact hdg k2 h1 z; rw [show k2 = sp3 by omega]; exact hb3.2) hvn (va_up_self _ _ _) (((sm.rf.tr (hs3.mono (by omega) (by omega))).up (by omega) (by omega)).up (by omega) (by omega))
              refine w_lv (lv2 := [(0, .ref (gb_ad G 49))]) [1] rfl ?_
              exact S3 _ sp1 0 _ rfl hsp (Nat.le_refl _) rfl (fun k2 h1 h2 => absurd h1 (by omega)) (by rw [Nat.sub_self]; rfl) (va_up_self _ _ _) (((sm.rf.tr (hs1.mono (by omega) (by omega))).up (by omega) (by omega)).up (by omega) (by omega))
          · skip
            have hlet : 97 ≤ bs sp1 ∧ bs sp1 ≤ 122 := by have z := c_7; rw [wIn_n (by omega) (by decide) (by decide), Bool.and_eq_true, decide_eq_true_eq, decide_eq_true_eq] at z; exact z
            have S2 : ∀ (k : Nat) (sp2 : Nat) (m2 : gb_M), ln - sp2 = k → sp2 ≤ ln → sp1 ≤ sp2 → rn bs ln 97 122 sp1 = rn bs ln 97 122 sp2 → m2 49 = (.inr (7, [.ref (gb_ad G 50), .int (Y 1), .ref (gb_ad G 51), .int (nI (rg)), .int (bI (ia)), .int (nI (ht)), .int (nI (ad)), .int (dI hw), .ref (gb_ad G 52), .int (nI (ln)), .int (Y 10), .int (nI 0), .int (nI (ba)), .int (nI (sp2)), .int (nI (sp1)), .int (nI (tk)), .int (nI 0), .ref (gb_ad G 53), .ref (gb_ad G 54), .int (Y 19), .int (Y 20), .int (Y 21), .int (Y 22), .ref (gb_ad G 55), .int (Y 24), .ref (gb_ad G 56), .int (Y 26), .ref (gb_ad G 57), .ref (gb_ad G 58), .ref (gb_ad G 59), .ref (gb_ad G 60), .int (Y 31)])) → sm mM m2 49 49 → Wm G X 2 Q 84 [(0, .ref (gb_ad G 49))] [] m2 := by
              intro k
              induction k using Nat.strongRecOn with
              | ind k ih_S2 =>
                intro sp2 m2 hk hsp2 hsg hrn2 h492 hs2
                refine w_aload_n (n := 85) O dX7_step_84 rfl rfl rfl ?_
                refine w_aload_n (n := 86) O dX7_step_85 rfl rfl rfl ?_
                refine w_getf (n := 89) O 13 dX7_step_86 (by omega) h492 rfl (by decide) uX7 uf_X7_69 rfl rfl ?_
                refine w_cV (n := 92) (ro := some (.int (byI bs ln sp2))) (R := fun mM' => m2 = mM') (st := []) (st1 := [.int (byI bs ln sp2)]) (As := [.int (nI (sp2))]) (b := 49) O dX7_step_89 ul_X7_72 um_X7_byteAt (f_X7_byteAt hW ⟨h492, ((hs2 (51) (by omega)).trans hR.2.1), ((hs2 (52) (by omega)).trans hR.2.2.1), ((hs2 (53) (by omega)).trans hR.2.2.2.1), ((hs2 (54) (by omega)).trans hR.2.2.2.2)⟩ hln hbs (by omega) ⟨rfl, rfl⟩) rfl (by omega) h492 rfl rfl rfl rfl (by decide) (Nat.le_of_ble_eq_true rfl) rfl (fun mhM_19 hM_19 => ?_)
                subst hM_19
                refine w_i2l (n := 93) O dX7_step_92 rfl ?_
                refine w_ldc2 (n := 96) O dX7_step_93 uc_X7_79 rfl ?_
                refine w_topl (lN 97) (by decide) ?_
                refine w_ldc2 (n := 99) O dX7_step_96 uc_X7_81 rfl ?_
                refine w_topl (lN 122) (by decide) ?_
                refine w_cS (n := 102) (ro := some (.int (bI (wIn (byI bs ln sp2) (nI 97) (nI 122))))) (R := fun mM' => m2 = mM') (st := []) (st1 := [.int (bI (wIn (byI bs ln sp2) (nI 97) (nI 122)))]) (As := [.long ((byI bs ln sp2).toInt64), .long (lN 97), .long (lN 122)]) O dX7_step_99 ul_X7_50 um_X7_in (f_X7_in (x := (byI bs ln sp2)) (y := (nI 97)) (z := (nI 122)) hW rfl (nI_l (by decide)).symm (nI_l (by decide)).symm ⟨rfl, rfl⟩) rfl rfl rfl (by decide) (Nat.le_of_ble_eq_true rfl) rfl (fun mhM_20 hM_20 => ?_)
                subst hM_20
                refine w_if_eqB (n := 105) (tgt := 118) O dX7_step_102 (by decide) rfl (fun c_21 => ?_) (fun c_21 => ?_)
                · skip
                  have hr2 : rn bs ln 97 122 sp1 = sp2 := by rw [hrn2]; exact rn_stop (byI_inf hbs (by decide) (by decide) c_21)
                  have hg2 : sp1 < sp2 := by rw [← hr2]; exact rn_lt.mpr ⟨hlt, hlet.1, hlet.2⟩
                  refine w_aload_n (n := 119) O dX7_step_118 rfl rfl rfl ?_
                  refine w_iconst (n := 120) O dX7_step_119 (v := (nI 1)) (by decide) rfl ?_
                  refine w_putf (n := 123) (fs' := [.ref (gb_ad G 50), .int (Y 1), .ref (gb_ad G 51), .int (nI (rg)), .int (bI (ia)), .int (nI (ht)), .int (nI (ad)), .int (dI hw), .ref (gb_ad G 52), .int (nI (ln)), .int (Y 10), .int (nI 0), .int (nI (ba)), .int (nI (sp2)), .int (nI (sp1)), .int (nI 1), .int (nI 0), .ref (gb_ad G 53), .ref (gb_ad G 54), .int (Y 19), .int (Y 20), .int (Y 21), .int (Y 22), .ref (gb_ad G 55), .int (Y 24), .ref (gb_ad G 56), .int (Y 26), .ref (gb_ad G 57), .ref (gb_ad G 58), .ref (gb_ad G 59), .ref (gb_ad G 60), .int (Y 31)]) O 15 dX7_step_120 (by omega) h492 rfl (by decide) uX7 uf_X7_66 tyX7 tyX7_ok nmX7 rfl rfl rfl (Nat.le_of_ble_eq_true rfl) rfl rfl ?_
                  refine w_goto (tgt := 269) O dX7_step_123 (by decide) ?_
                  refine w_vret O dX7_step_269 ?_
                  have eS : tkS bs ln p = 2 := by rw [hS0]; unfold tkSb; rw [if_neg (by omega), if_pos (by rw [hr2]; exact hg2)]
                  have eE : tkE bs ln p = sp2 := by rw [hE0]; unfold tkEb; rw [if_neg (by omega), if_pos (by rw [hr2]; exact hg2), hr2]
                  have eA : aT bs ln p = 0 := by unfold aT; rw [eS]; rfl
                  rw [eA] at hQ
                  exact hQ _ ⟨_, _, _, _, _, ⟨(va_up_self _ _ _), ((va_up_ne _ _ (by decide)).trans ((hs2 (51) (by omega)).trans hR.2.1)), ((va_up_ne _ _ (by decide)).trans ((hs2 (52) (by omega)).trans hR.2.2.1)), ((va_up_ne _ _ (by decide)).trans ((hs2 (53) (by omega)).trans hR.2.2.2.1)), ((va_up_ne _ _ (by decide)).trans ((hs2 (54) (by omega)).trans hR.2.2.2.2))⟩, ⟨by omega, by omega, by decide, by omega, (show 0 ≤ 6 by decide), (fun z => absurd rfl z), (fun _ => ⟨hB.symm, eE.symm, by rw [eS], fun z => absurd (eS.symm.trans z) (by decide)⟩)⟩, hpl⟩ ((sm.rf.tr (hs2.mono (by omega) (by omega))).up (by omega) (by omega))
                · skip
                  have hb2 := (byI_in hbs (by decide) (by decide)).mp c_21
                  refine w_aload_n (n := 106) O dX7_step_105 rfl rfl rfl ?_
                  refine w_dup (n := 107) O dX7_step_106 rfl rfl ?_
                  refine w_getf (n := 110) O 13 dX7_step_107 (by omega) h492 rfl (by decide) uX7 uf_X7_69 rfl rfl ?_
                  refine w_iconst (n := 111) O dX7_step_110 (v := (nI 1)) (by decide) rfl ?_
                  refine w_iaddN (n := 112) O dX7_step_111 rfl ?_
                  refine w_putf (n := 115) (fs' := [.ref (gb_ad G 50), .int (Y 1), .ref (gb_ad G 51), .int (nI (rg)), .int (bI (ia)), .int (nI (ht)), .int (nI (ad)), .int (dI hw), .ref (gb_ad G 52), .int (nI (ln)), .int (Y 10), .int (nI 0), .int (nI (ba)), .int (nI ((sp2 + 1))), .int (nI (sp1)), .int (nI (tk)), .int (nI 0), .ref (gb_ad G 53), .ref (gb_ad G 54), .int (Y 19), .int (Y 20), .int (Y 21), .int (Y 22), .ref (gb_ad G 55), .int (Y 24), .ref (gb_ad G 56), .int (Y 26), .ref (gb_ad G 57), .ref (gb_ad G 58), .ref (gb_ad G 59), .ref (gb_ad G 60), .int (Y 31)]) O 13 dX7_step_112 (by omega) h492 rfl (by decide) uX7 uf_X7_69 tyX7 tyX7_ok nmX7 rfl rfl rfl (Nat.le_of_ble_eq_true rfl) rfl rfl ?_
                  refine w_goto (tgt := 84) O dX7_step_115 (by decide) ?_
                  refine w_lv (lv2 := [(0, .ref (gb_ad G 49))]) [0] rfl ?_
                  exact ih_S2 _ (by omega) (sp2 + 1) _ rfl (by omega) (by omega) (by rw [hrn2]; exact rn_go hb2.1 hb2.2.1 hb2.2.2) (va_up_self _ _ _) ((sm.rf.tr (hs2.mono (by omega) (by omega))).up (by omega) (by omega))
            refine w_lv (lv2 := [(0, .ref (gb_ad G 49))]) [1] rfl ?_
            exact S2 _ sp1 _ rfl hsp (Nat.le_refl _) rfl (va_up_self _ _ _) (((sm.rf.tr (hs1.mono (by omega) (by omega))).up (by omega) (by omega)).up (by omega) (by omega))
        · skip
          have hle := byI_n hbs c_5
          refine w_aload_n (n := 63) O dX7_step_62 rfl rfl rfl ?_
          refine w_iconst (n := 64) O dX7_step_63 (v := (nI 0)) (by decide) rfl ?_
          refine w_putf (n := 67) (fs' := [.ref (gb_ad G 50), .int (Y 1), .ref (gb_ad G 51), .int (nI (rg)), .int (bI (ia)), .int (nI (ht)), .int (nI (ad)), .int (dI hw), .ref (gb_ad G 52), .int (nI (ln)), .int (Y 10), .int (nI 0), .int (nI (ba)), .int (nI (sp1)), .int (nI (sp1)), .int (nI 0), .int (nI 0), .ref (gb_ad G 53), .ref (gb_ad G 54), .int (Y 19), .int (Y 20), .int (Y 21), .int (Y 22), .ref (gb_ad G 55), .int (Y 24), .ref (gb_ad G 56), .int (Y 26), .ref (gb_ad G 57), .ref (gb_ad G 58), .ref (gb_ad G 59), .ref (gb_ad G 60), .int (Y 31)]) O 15 dX7_step_64 (by omega) (va_up_self _ _ _) rfl (by decide) uX7 uf_X7_66 tyX7 tyX7_ok nmX7 rfl rfl rfl (Nat.le_of_ble_eq_true rfl) rfl rfl ?_
          refine w_goto (tgt := 269) O dX7_step_67 (by decide) ?_
          refine w_vret O dX7_step_269 ?_
          have eS : tkS bs ln p = 1 := by rw [hS0]; unfold tkSb; rw [if_pos hle]
          have eE : tkE bs ln p = sp1 := by rw [hE0]; unfold tkEb; rw [if_pos hle]
          have eA : aT bs ln p = 0 := by unfold aT; rw [eS]; rfl
          rw [eA] at hQ
          exact hQ _ ⟨_, _, _, _, _, ⟨(va_up_self _ _ _), ((va_up_ne _ _ (by decide)).trans ((va_up_ne _ _ (by decide)).trans ((va_up_ne _ _ (by decide)).trans ((hs1 (51) (by omega)).trans hR.2.1)))), ((va_up_ne _ _ (by decide)).trans ((va_up_ne _ _ (by decide)).trans ((va_up_ne _ _ (by decide)).trans ((hs1 (52) (by omega)).trans hR.2.2.1)))), ((va_up_ne _ _ (by decide)).trans ((va_up_ne _ _ (by decide)).trans ((va_up_ne _ _ (by decide)).trans ((hs1 (53) (by omega)).trans hR.2.2.2.1)))), ((va_up_ne _ _ (by decide)).trans ((va_up_ne _ _ (by decide)).trans ((va_up_ne _ _ (by decide)).trans ((hs1 (54) (by omega)).trans hR.2.2.2.2))))⟩, ⟨by omega, by omega, by decide, by omega, (show 0 ≤ 6 by decide), (fun z => absurd rfl z), (fun _ => ⟨hB.symm, eE.symm, by rw [eS], fun z => absurd (eS.symm.trans z) (by decide)⟩)⟩, hpl⟩ ((((sm.rf.tr (hs1.mono (by omega) (by omega))).up (by omega) (by omega)).up (by omega) (by omega)).up (by omega) (by omega))
      · skip
        have hb1 := (byI_eq hbs (by decide)).mp c_3
        refine w_aload_n (n := 22) O dX7_step_21 rfl rfl rfl ?_
        refine w_dup (n := 23) O dX7_step_22 rfl rfl ?_
        refine w_getf (n := 26) O 13 dX7_step_23 (by omega) h491 rfl (by decide) uX7 uf_X7_69 rfl rfl ?_
        refine w_iconst (n := 27) O dX7_step_26 (v := (nI 1)) (by decide) rfl ?_
        refine w_iaddN (n := 28) O dX7_step_27 rfl ?_
        refine w_putf (n := 31) (fs' := [.ref (gb_ad G 50), .int (Y 1), .ref (gb_ad G 51), .int (nI (rg)), .int (bI (ia)), .int (nI (ht)), .int (nI (ad)), .int (dI hw), .ref (gb_ad G 52), .int (nI (ln)), .int (Y 10), .int (nI 0), .int (nI (ba)), .int (nI ((sp1 + 1))), .int (nI (he)), .int (nI (tk)), .int (nI (va)), .ref (gb_ad G 53), .ref (gb_ad G 54), .int (Y 19), .int (Y 20), .int (Y 21), .int (Y 22), .ref (gb_ad G 55), .int (Y 24), .ref (gb_ad G 56), .int (Y 26), .ref (gb_ad G 57), .ref (gb_ad G 58), .ref (gb_ad G 59), .ref (gb_ad G 60), .int (Y 31)]) O 13 dX7_step_28 (by omega) h491 rfl (by decide) uX7 uf_X7_69 tyX7 tyX7_ok nmX7 rfl rfl rfl (Nat.le_of_ble_eq_true rfl) rfl rfl ?_
        refine w_goto (tgt := 8) O dX7_step_31 (by decide) ?_
        refine w_lv (lv2 := [(0, .ref (gb_ad G 49))]) [0] rfl ?_
        exact ih_S1 _ (by omega) (sp1 + 1) _ rfl (by omega) (by rw [hrn]; exact rn_go hb1.1 (by omega) (by omega)) (va_up_self _ _ _) ((sm.rf.tr (hs1.mono (by omega) (by omega))).up (by omega) (by omega))
  refine w_lv (lv2 := [(0, .ref (gb_ad G 49))]) [0] rfl ?_
  exact S1 _ p mM rfl hpl rfl hR.1 sm.rf
