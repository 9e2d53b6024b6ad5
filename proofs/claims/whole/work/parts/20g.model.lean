/-- found from above: the least of those from k on, below n -/
def dnI (P : Nat → Bool) (n k : Nat) (fo : Option Nat) : Prop := (fo = none ∧ ∀ c, k ≤ c → c < n → P c = false) ∨ ∃ f, fo = some f ∧ k ≤ f ∧ f < n ∧ P f = true ∧ ∀ c, k ≤ c → c < f → P c = false
theorem dn_0 (P : Nat → Bool) (n : Nat) : dnI P n n none := Or.inl ⟨rfl, fun c h1 h2 => absurd h1 (by omega)⟩
theorem dn_yes {P : Nat → Bool} {n k : Nat} {fo : Option Nat} (h : P k = true) (hk : k < n) : dnI P n k (some k) := Or.inr ⟨k, rfl, Nat.le_refl _, hk, h, fun c h1 h2 => absurd h1 (by omega)⟩
theorem dn_skip {P : Nat → Bool} {n k k2 : Nat} {fo : Option Nat} (h : dnI P n k2 fo) (hk : k ≤ k2) (hno : ∀ c, k ≤ c → c < k2 → P c = false) : dnI P n k fo := by
  rcases h with ⟨h1, h2⟩ | ⟨f, h1, h2, h3, h4, h5⟩
  · refine Or.inl ⟨h1, fun c a1 a2 => ?_⟩
    rcases Nat.lt_or_ge c k2 with q | q
    · exact hno c a1 q
    · exact h2 c q a2
  · refine Or.inr ⟨f, h1, by omega, h3, h4, fun c a1 a2 => ?_⟩
    rcases Nat.lt_or_ge c k2 with q | q
    · exact hno c a1 q
    · exact h5 c q a2
theorem dn_no {P : Nat → Bool} {n k : Nat} {fo : Option Nat} (h : dnI P n (k + 1) fo) (hf : P k = false) : dnI P n k fo := dn_skip h (by omega) (fun c h1 h2 => by rw [show c = k by omega]; exact hf)
theorem dn_end {P : Nat → Bool} {n : Nat} {fo : Option Nat} (h : dnI P n 0 fo) : sFirst P n = fo := by
  rcases h with ⟨h1, h2⟩ | ⟨f, h1, h2, h3, h4, h5⟩
  · rw [h1]; exact sF_none (fun c hc => h2 c (Nat.zero_le _) hc)
  · rw [h1]; exact sF_at h4 (fun c hc => h5 c (Nat.zero_le _) hc) h3
theorem gGv_told (T : Tw) (j v : Nat) : gGv T 0 0 (some j) v = upN (tGives T) j v := by
  funext g
  unfold gGv upN
  have e : hasB 0 g = false := by simp [hasB]
  rw [e]
  by_cases q : g = j
  · subst q; simp
  · have q2 : ¬ (some j = some g) := fun z => q (by cases z; rfl)
    simp [q2, q]
theorem gGv_off (T : Tw) (k tm : Nat) : gGv T k 0 none tm = offP T k := by
  funext g
  unfold gGv offP
  have e : hasB 0 g = false := by simp [hasB]
  rw [e]
  rfl
theorem gGv_lie (T : Tw) (k tm : Nat) : gGv T 0 k none tm = lieP T k := by
  funext g
  unfold gGv lieP
  have e : hasB 0 g = false := by simp [hasB]
  rw [e]
  rfl
theorem spB_bc {T : Tw} : ∀ {k : Nat} {q : Nat × Nat}, spB T k = some q → q.1 = bc q.2
  | 0, q, h => by cases h
  | k + 1, q, h => by
    unfold spB at h
    by_cases e : offB T k = true ∧ (∀ q, spB T k = some q → q.1 < bc k)
    · rw [if_pos e] at h; cases h; rfl
    · rw [if_neg e] at h; exact spB_bc h
theorem sSum_up {f : Nat → Nat} {q v : Nat} : ∀ {n : Nat}, q < n → sSum (upN f q v) n + f q = sSum f n + v
  | 0, h => absurd h (Nat.not_lt_zero q)
  | n + 1, h => by
    simp only [sSum]
    by_cases e : q = n
    · subst e
      have e1 : sSum (upN f q v) q = sSum f q := sSum_cong (fun k hk => upN_ne _ _ (by omega))
      rw [e1, upN_self]
      omega
    · have e2 := sSum_up (f := f) (q := q) (v := v) (n := n) (by omega)
      rw [upN_ne _ _ (show n ≠ q by omega)]
      omega
theorem holdS_step {V : Tw} {q : Nat} (hq : q < V.2.2.2.1) (h0 : 0 < V.1 (q * 6 + 5)) : holdS (cStep V q) + 1 = holdS V := by
  have e := sSum_up (f := fun g => V.1 (g * 6 + 5)) (q := q) (v := V.1 (q * 6 + 5) - 1) hq
  have e2 : holdS (cStep V q) = sSum (upN (fun g => V.1 (g * 6 + 5)) q (V.1 (q * 6 + 5) - 1)) V.2.2.2.1 := sSum_cong (fun k hk => by
    show upN V.1 (q * 6 + 5) (V.1 (q * 6 + 5) - 1) (k * 6 + 5) = upN (fun g => V.1 (g * 6 + 5)) q (V.1 (q * 6 + 5) - 1) k
    by_cases z : k = q
    · subst z; rw [upN_self, upN_self]
    · rw [upN_ne _ _ (by omega), upN_ne _ _ z])
  rw [e2]
  unfold holdS
  have e3 : (fun g => V.1 (g * 6 + 5)) q = V.1 (q * 6 + 5) := rfl
  omega
set_option maxRecDepth 100000 in
set_option maxHeartbeats 4000000 in
theorem f_X7_ring {G : gb_G} (hW : gW G) {Q : Option Value → gb_M → Prop} {mM : gb_M} {T : Tw} {im : Nat → Tw} {kp : Nat → Bool} {bs : Nat → Nat} {ln fa : Nat} {st sf : Nat → Nat} {sn : Nat} {sh : Sh} {sc : Nat → Nat → Int32} {tn : Nat} (hok : okS T im kp bs ln fa st sf sn sh tn) (hM : isMW G mM T im kp bs ln fa st sf sn sh sc tn) {x : Int32}  (hQ : ∀ M', isMW G M' (s_ring T x) im kp bs ln fa st sf sn sh sc tn → sm mM M' 49 60 → Q (some (.int (a_ring T x))) M') : Fn G 7 yX7_ring cX7_ring 3 (some .int) [.ref (gb_ad G 49), .int (x)] mM Q := by
  obtain ⟨s, se, le, rp, te, la, ce, tm, x3, x4, x5, x6, x7, x11, x12, x13, x14, x15, x16, x26, h49, h50, h51, h52, h53, h54, h55, h56, h57, h58, h59, h60, htm, hpg, hIm, hSe, hLa, hLe, hCe⟩ := hM
  have ok := hok.1
  have hn4 := ok.1
  have hst9 := hok.2.1
  have hln := hok.2.2.2.1
  have hsn6 := hok.2.2.2.2.2.2.1
  have hN := hW.2.2.1
  refine Fn.of hW.1 [(0, .ref (gb_ad G 49)), (1, .int (x))] (by decide) (Nat.le_of_ble_eq_true rfl) rfl ?_
  intro X O
  refine w_iload_n (n := 1) O dX7_ring_0 rfl rfl rfl ?_
  refine w_i2l (n := 2) O dX7_ring_1 rfl ?_
  refine w_lconst (n := 3) O dX7_ring_2 (v := lN 0) (by decide) rfl ?_
  refine w_ldc2 (n := 6) O dX7_ring_3 uc_X7_219 rfl ?_
  refine w_topl (lN 99) (by decide) ?_
  refine w_cS (n := 9) (ro := some (.int (bI (wIn (x) (nI 0) (nI 99))))) (R := fun mM' => mM = mM') (st := []) (st1 := [.int (bI (wIn (x) (nI 0) (nI 99)))]) (As := [.long ((x).toInt64), .long (lN 0), .long (lN 99)]) O dX7_ring_6 ul_X7_50 um_X7_in (f_X7_in (x := (x)) (y := (nI 0)) (z := (nI 99)) hW rfl (nI_l (by decide)).symm (nI_l (by decide)).symm ⟨rfl, rfl⟩) rfl rfl rfl (by decide) (Nat.le_of_ble_eq_true rfl) rfl (fun mhM_1 hM_1 => ?_)
  subst hM_1
  refine w_if_neB (n := 12) (tgt := 14) O dX7_ring_9 (by decide) rfl (fun c_2 => ?_) (fun c_2 => ?_)
  · skip
    have hr_j := c_2
    obtain ⟨j, ja, jb, rfl⟩ := wIn_t (by omega) c_2 (by omega)
    have cl_j : (nI j).toNatClampNeg = j := nI_clamp (by omega)
    refine w_aload_n (n := 15) O dX7_ring_14 rfl rfl rfl ?_
    refine w_getf (n := 18) O 0 dX7_ring_15 (by omega) h49 rfl (by decide) uX7 uf_X7_7 rfl rfl ?_
    refine w_bipush (n := 20) O dX7_ring_18 (v := (nI 26)) (by decide) rfl ?_
    refine w_ialdP (n := 21) (v := T.2.2.2.2.2.2) O dX7_ring_20 hW.2.1 (by omega) h50 (by omega) (by decide) (by omega) hpg.2.2.2.2.2 rfl ?_
    refine w_iload_n (n := 22) O dX7_ring_21 rfl rfl rfl ?_
    refine w_iaddN (n := 23) O dX7_ring_22 rfl ?_
    refine w_sipush (n := 26) O dX7_ring_23 (v := (nI 999)) (by decide) rfl ?_
    refine w_icmp_leN (n := 29) (tgt := 32) O dX7_ring_26 (by omega) (by omega) (by decide) rfl (fun c_3 => ?_) (fun c_3 => ?_)
    · skip
      refine w_iconst (n := 33) O dX7_ring_32 (v := (nI 0)) (by decide) rfl ?_
      refine w_istore_n (n := 34) (lv' := [(2, .int (nI 0)), (0, .ref (gb_ad G 49)), (1, .int (nI (j)))]) O dX7_ring_33 rfl (by decide) rfl rfl ?_
      have LR : ∀ (k : Nat) (i : Nat) (s1 : Nat → Nat) (m1 : gb_M), j - i = k → i ≤ j → m1 50 = IA G 150 (pgI s1) → pg0 s1 (rep tStrike i T) → (∀ k2, 30 ≤ k2 → s1 k2 = s k2) → sm mM m1 50 50 → Wm G X 3 Q 34 [(0, .ref (gb_ad G 49)), (1, .int (nI (j))), (2, .int (nI (i)))] [] m1 := by
        intro k
        induction k using Nat.strongRecOn with
        | ind k ih_LR =>
          intro i s1 m1 hk hi h501 hpg1 hkp hs1
          have h491 : m1 49 = (.inr (7, [.ref (gb_ad G 50), .int (nI ((rep tStrike i T).2.2.2.1)), .ref (gb_ad G 51), .int (x3), .int (x4), .int (x5), .int (x6), .int (x7), .ref (gb_ad G 52), .int (nI (ln)), .int (nI (fa)), .int (x11), .int (x12), .int (x13), .int (x14), .int (x15), .int (x16), .ref (gb_ad G 53), .ref (gb_ad G 54), .int (nI 0), .int (nI 0), .int (oI none), .int (nI (tm)), .ref (gb_ad G 55), .int (nI (sn)), .ref (gb_ad G 56), .int (x26), .ref (gb_ad G 57), .ref (gb_ad G 58), .ref (gb_ad G 59), .ref (gb_ad G 60), .int (nI (tn))])) := by rw [(rep_sk T i).2]; exact (hs1 49 (by omega)).trans h49
          have okR := okT_rep ok i (by omega)
          have hskR := (rep_sk T i).1
          refine w_iload_n (n := 35) O dX7_ring_34 rfl rfl rfl ?_
          refine w_iload_n (n := 36) O dX7_ring_35 rfl rfl rfl ?_
          refine w_icmp_geN (n := 39) (tgt := 49) O dX7_ring_36 (by omega) (by omega) (by decide) rfl (fun c_4 => ?_) (fun c_4 => ?_)
          · skip
            refine w_aload_n (n := 50) O dX7_ring_49 rfl rfl rfl ?_
            refine w_cV (n := 53) (ro := some (.int (nI (bWt ((rep tStrike i T)))))) (R := fun mM' => m1 = mM') (st := []) (st1 := [.int (nI (bWt ((rep tStrike i T))))]) (As := []) (b := 49) O dX7_ring_50 ul_X7_178 um_X7_weight (f_X7_weight0 (s := s1) (T := (rep tStrike i T)) (tm := tm) hW ⟨h501, hpg1, _, _, _, _, _, _, _, _, _, _, _, _, _, _, _, _, h491⟩ okR htm  ⟨rfl, rfl⟩) rfl (by omega) h491 rfl rfl rfl rfl (by decide) (Nat.le_of_ble_eq_true rfl) rfl (fun mhM_5 hM_5 => ?_)
            subst hM_5
            refine w_iret O dX7_ring_53 ?_
            have e0 : a_ring T (nI j) = (nI (bWt ((rep tStrike i T)))) := by unfold a_ring; rw [if_pos hr_j, cl_j, if_pos (by omega), show i = j by omega]
            have e1 : s_ring T (nI j) = rep tStrike i T := by unfold s_ring; rw [cl_j, if_pos ⟨hr_j, by omega⟩, show i = j by omega]
            rw [e0, e1] at hQ
            try dsimp only at hQ
            exact hQ (m1) ⟨_, _, _, _, _, _, _, _, _, _, _, _, _, _, _, _, _, _, _, _, h491, h501, ((hs1 (51) (by omega)).trans h51), ((hs1 (52) (by omega)).trans h52), ((hs1 (53) (by omega)).trans h53), ((hs1 (54) (by omega)).trans h54), ((hs1 (55) (by omega)).trans h55), ((hs1 (56) (by omega)).trans h56), ((hs1 (57) (by omega)).trans h57), ((hs1 (58) (by omega)).trans h58), ((hs1 (59) (by omega)).trans h59), ((hs1 (60) (by omega)).trans h60), htm, hpg1, (imK hIm hkp), hSe, hLa, hLe, hCe⟩ (sm.rf.tr (hs1.mono (by omega) (by omega)))
          · skip
            refine w_aload_n (n := 40) O dX7_ring_39 rfl rfl rfl ?_
            refine w_cV (n := 43) (ro := none) (R := fun mM' => ∃ s', mM' 50 = IA G 150 (pgI s') ∧ pg0 s' (tStrike ((rep tStrike i T))) ∧ (∀ k, 30 ≤ k → s' k = s1 k) ∧ sm m1 mM' 50 50) (st := []) (st1 := []) (As := []) (b := 49) O dX7_ring_40 ul_X7_221 um_X7_strikes (f_X7_strikes (s := s1) (T := (rep tStrike i T)) (tm := tm) hW ⟨h501, hpg1, _, _, _, _, _, _, _, _, _, _, _, _, _, _, _, _, h491⟩ okR htm (by omega) (fun M' s' h1 h2 h3 h4 => ⟨rfl, s', h1, h2, h3, h4⟩)) rfl (by omega) h491 rfl rfl rfl rfl (by decide) (Nat.le_of_ble_eq_true rfl) rfl (fun mhM_6 hM_6 => ?_)
            obtain ⟨shM_6, hphM_6, hqhM_6, hkhM_6, hshM_6⟩ := hM_6
            refine w_iincN (n := 46) (lv' := [(2, .int (nI (i + 1))), (0, .ref (gb_ad G 49)), (1, .int (nI (j)))]) O dX7_ring_43 rfl (by decide) rfl rfl ?_
            refine w_goto (tgt := 34) O dX7_ring_46 (by decide) ?_
            refine w_lv (lv2 := [(0, .ref (gb_ad G 49)), (1, .int (nI (j))), (2, .int (nI (i + 1)))]) [1, 2, 0] rfl ?_
            exact ih_LR _ (by omega) (i + 1) _ _ rfl (by omega) hphM_6 (by rw [rep_succ]; exact hqhM_6) (fun k2 hk2 => (hkhM_6 k2 hk2).trans (hkp k2 hk2)) ((sm.rf.tr (hs1.mono (by omega) (by omega))).tr (hshM_6.mono (by omega) (by omega)))
      refine w_lv (lv2 := [(0, .ref (gb_ad G 49)), (1, .int (nI (j))), (2, .int (nI 0))]) [1, 2, 0] rfl ?_
      exact LR _ 0 s mM rfl (Nat.zero_le _) h50 hpg (fun _ _ => rfl) sm.rf
    · skip
      refine w_bipush (n := 31) O dX7_ring_29 (v := (-3)) (by decide) rfl ?_
      refine w_iret O dX7_ring_31 ?_
      have e0 : a_ring T (nI j) = -3 := by unfold a_ring; rw [if_pos hr_j, cl_j, if_neg (by omega)]
      have e1 : s_ring T (nI j) = T := by unfold s_ring; rw [cl_j, if_neg (fun z => by have := z.2; omega)]
      rw [e0, e1] at hQ
      try dsimp only at hQ
      exact hQ (mM) ⟨_, _, _, _, _, _, _, _, _, _, _, _, _, _, _, _, _, _, _, _, h49, h50, h51, h52, h53, h54, h55, h56, h57, h58, h59, h60, htm, hpg, hIm, hSe, hLa, hLe, hCe⟩ sm.rf
  · skip
    refine w_iconst (n := 13) O dX7_ring_12 (v := (-1)) (by decide) rfl ?_
    refine w_iret O dX7_ring_13 ?_
    have e0 : a_ring T x = -1 := by unfold a_ring; rw [if_neg (by rw [c_2]; decide)]
    have e1 : s_ring T x = T := by unfold s_ring; rw [if_neg (fun z => by rw [c_2] at z; exact absurd z.1 (by decide))]
    rw [e0, e1] at hQ
    try dsimp only at hQ
    exact hQ (mM) ⟨_, _, _, _, _, _, _, _, _, _, _, _, _, _, _, _, _, _, _, _, h49, h50, h51, h52, h53, h54, h55, h56, h57, h58, h59, h60, htm, hpg, hIm, hSe, hLa, hLe, hCe⟩ sm.rf
set_option maxRecDepth 100000 in
set_option maxHeartbeats 4000000 in
theorem f_X7_mine {G : gb_G} (hW : gW G) {Q : Option Value → gb_M → Prop} {mM : gb_M} {T : Tw} {im : Nat → Tw} {kp : Nat → Bool} {bs : Nat → Nat} {ln fa : Nat} {st sf : Nat → Nat} {sn : Nat} {sh : Sh} {sc : Nat → Nat → Int32} {tn : Nat} (hok : okS T im kp bs ln fa st sf sn sh tn) (hM : isMW G mM T im kp bs ln fa st sf sn sh sc tn) {g : Int32}  (hQ : ∀ M', isMW G M' T im kp bs ln fa st sf sn sh sc tn → sm mM M' 49 60 → Q (some (.int (a_mine T g))) M') : Fn G 8 yX7_mine cX7_mine 4 (some .int) [.ref (gb_ad G 49), .int (g)] mM Q := by
  obtain ⟨s, se, le, rp, te, la, ce, tm, x3, x4, x5, x6, x7, x11, x12, x13, x14, x15, x16, x26, h49, h50, h51, h52, h53, h54, h55, h56, h57, h58, h59, h60, htm, hpg, hIm, hSe, hLa, hLe, hCe⟩ := hM
  have ok := hok.1
  have hn4 := ok.1
  have hst9 := hok.2.1
  have hln := hok.2.2.2.1
  have hsn6 := hok.2.2.2.2.2.2.1
  have hN := hW.2.2.1
  refine Fn.of hW.1 [(0, .ref (gb_ad G 49)), (1, .int (g))] (by decide) (Nat.le_of_ble_eq_true rfl) rfl ?_
  intro X O
  refine w_aload_n (n := 1) O dX7_mine_0 rfl rfl rfl ?_
  refine w_iload_n (n := 2) O dX7_mine_1 rfl rfl rfl ?_
  refine w_cV (n := 5) (ro := some (.int (bI (isGv (g) T.2.2.2.1)))) (R := fun mM' => mM = mM') (st := []) (st1 := [.int (bI (isGv (g) T.2.2.2.1))]) (As := [.int (g)]) (b := 49) O dX7_mine_2 ul_X7_165 um_X7_isGiver (f_X7_isGiver (s := s) (T := T) (lo := 0) (li := 0) (to := none) (tm := tm) hW ⟨h50, hpg, _, _, _, _, _, _, _, _, _, _, _, _, _, _, _, _, h49⟩ ok  ⟨rfl, rfl⟩) rfl (by omega) h49 rfl rfl rfl rfl (by decide) (Nat.le_of_ble_eq_true rfl) rfl (fun mhM_1 hM_1 => ?_)
  subst hM_1
  refine w_if_neB (n := 8) (tgt := 10) O dX7_mine_5 (by decide) rfl (fun c_2 => ?_) (fun c_2 => ?_)
  · skip
    have hr_j := c_2
    obtain ⟨j, ja, rfl⟩ := isGv_t (by omega) c_2
    have cl_j : (nI j).toNatClampNeg = j := nI_clamp (by omega)
    refine w_bipush (n := 12) O dX7_mine_10 (v := (-4)) (by decide) rfl ?_
    refine w_istore_n (n := 13) (lv' := [(2, .int (-4)), (0, .ref (gb_ad G 49)), (1, .int (nI (j)))]) O dX7_mine_12 rfl (by decide) rfl rfl ?_
    refine w_aload_n (n := 14) O dX7_mine_13 rfl rfl rfl ?_
    refine w_iload_n (n := 15) O dX7_mine_14 rfl rfl rfl ?_
    refine w_putf (n := 18) (fs' := [.ref (gb_ad G 50), .int (nI (T.2.2.2.1)), .ref (gb_ad G 51), .int (x3), .int (x4), .int (x5), .int (x6), .int (x7), .ref (gb_ad G 52), .int (nI (ln)), .int (nI (fa)), .int (x11), .int (x12), .int (x13), .int (x14), .int (x15), .int (x16), .ref (gb_ad G 53), .ref (gb_ad G 54), .int (nI 0), .int (nI 0), .int (nI (j)), .int (nI (tm)), .ref (gb_ad G 55), .int (nI (sn)), .ref (gb_ad G 56), .int (x26), .ref (gb_ad G 57), .ref (gb_ad G 58), .ref (gb_ad G 59), .ref (gb_ad G 60), .int (nI (tn))]) O 21 dX7_mine_15 (by omega) h49 rfl (by decide) uX7 uf_X7_25 tyX7 tyX7_ok nmX7 rfl rfl rfl (Nat.le_of_ble_eq_true rfl) rfl rfl ?_
    refine w_bipush (n := 20) O dX7_mine_18 (v := (nI 40)) (by decide) rfl ?_
    refine w_istore_n (n := 21) (lv' := [(3, .int (nI 40)), (2, .int (-4)), (0, .ref (gb_ad G 49)), (1, .int (nI (j)))]) O dX7_mine_20 rfl (by decide) rfl rfl ?_
    have LI : ∀ (k : Nat) (kv : Nat) (fo : Option Nat) (m1 : gb_M) (tm1 : Nat), kv = k → kv ≤ 41 → dnI (mineB T j) 41 kv fo → m1 49 = (.inr (7, [.ref (gb_ad G 50), .int (nI (T.2.2.2.1)), .ref (gb_ad G 51), .int (x3), .int (x4), .int (x5), .int (x6), .int (x7), .ref (gb_ad G 52), .int (nI (ln)), .int (nI (fa)), .int (x11), .int (x12), .int (x13), .int (x14), .int (x15), .int (x16), .ref (gb_ad G 53), .ref (gb_ad G 54), .int (nI 0), .int (nI 0), .int (nI (j)), .int (nI (tm1)), .ref (gb_ad G 55), .int (nI (sn)), .ref (gb_ad G 56), .int (x26), .ref (gb_ad G 57), .ref (gb_ad G 58), .ref (gb_ad G 59), .ref (gb_ad G 60), .int (nI (tn))])) → tm1 ≤ 40 → sm mM m1 49 49 → Wm G X 4 Q 21 [(0, .ref (gb_ad G 49)), (1, .int (nI (j))), (2, .int (oI fo)), (3, .int (dI kv))] [] m1 := by
      intro k
      induction k using Nat.strongRecOn with
      | ind k ih_LI =>
        intro kv fo m1 tm1 hk hkv hdn h491 htm1 hs1
        refine w_iload_n (n := 22) O dX7_mine_21 rfl rfl rfl ?_
        refine w_if_lt (n := 25) (tgt := 49) O dX7_mine_22 (by decide) rfl (fun c_3 => ?_) (fun c_3 => ?_)
        · skip
          have hk0 := dI_lt (by omega) c_3
          subst hk0
          refine w_aload_n (n := 50) O dX7_mine_49 rfl rfl rfl ?_
          refine w_bipush (n := 52) O dX7_mine_50 (v := (-4)) (by decide) rfl ?_
          refine w_putf (n := 55) (fs' := [.ref (gb_ad G 50), .int (nI (T.2.2.2.1)), .ref (gb_ad G 51), .int (x3), .int (x4), .int (x5), .int (x6), .int (x7), .ref (gb_ad G 52), .int (nI (ln)), .int (nI (fa)), .int (x11), .int (x12), .int (x13), .int (x14), .int (x15), .int (x16), .ref (gb_ad G 53), .ref (gb_ad G 54), .int (nI 0), .int (nI 0), .int (-4), .int (nI (tm1)), .ref (gb_ad G 55), .int (nI (sn)), .ref (gb_ad G 56), .int (x26), .ref (gb_ad G 57), .ref (gb_ad G 58), .ref (gb_ad G 59), .ref (gb_ad G 60), .int (nI (tn))]) O 21 dX7_mine_52 (by omega) h491 rfl (by decide) uX7 uf_X7_25 tyX7 tyX7_ok nmX7 rfl rfl rfl (Nat.le_of_ble_eq_true rfl) rfl rfl ?_
          refine w_iload_n (n := 56) O dX7_mine_55 rfl rfl rfl ?_
          refine w_iret O dX7_mine_56 ?_
          have e0 : a_mine T (nI j) = (oI fo) := by unfold a_mine; rw [if_pos hr_j, cl_j, dn_end hdn]
          rw [e0] at hQ
          try dsimp only at hQ
          exact hQ ((va_up m1 (49) (.inr (7, [.ref (gb_ad G 50), .int (nI (T.2.2.2.1)), .ref (gb_ad G 51), .int (x3), .int (x4), .int (x5), .int (x6), .int (x7), .ref (gb_ad G 52), .int (nI (ln)), .int (nI (fa)), .int (x11), .int (x12), .int (x13), .int (x14), .int (x15), .int (x16), .ref (gb_ad G 53), .ref (gb_ad G 54), .int (nI 0), .int (nI 0), .int (-4), .int (nI (tm1)), .ref (gb_ad G 55), .int (nI (sn)), .ref (gb_ad G 56), .int (x26), .ref (gb_ad G 57), .ref (gb_ad G 58), .ref (gb_ad G 59), .ref (gb_ad G 60), .int (nI (tn))])))) ⟨_, _, _, _, _, _, _, _, _, _, _, _, _, _, _, _, _, _, _, _, (va_up_self _ _ _), ((va_up_ne _ _ (by decide)).trans ((hs1 (50) (by omega)).trans h50)), ((va_up_ne _ _ (by decide)).trans ((hs1 (51) (by omega)).trans h51)), ((va_up_ne _ _ (by decide)).trans ((hs1 (52) (by omega)).trans h52)), ((va_up_ne _ _ (by decide)).trans ((hs1 (53) (by omega)).trans h53)), ((va_up_ne _ _ (by decide)).trans ((hs1 (54) (by omega)).trans h54)), ((va_up_ne _ _ (by decide)).trans ((hs1 (55) (by omega)).trans h55)), ((va_up_ne _ _ (by decide)).trans ((hs1 (56) (by omega)).trans h56)), ((va_up_ne _ _ (by decide)).trans ((hs1 (57) (by omega)).trans h57)), ((va_up_ne _ _ (by decide)).trans ((hs1 (58) (by omega)).trans h58)), ((va_up_ne _ _ (by decide)).trans ((hs1 (59) (by omega)).trans h59)), ((va_up_ne _ _ (by decide)).trans ((hs1 (60) (by omega)).trans h60)), htm1, hpg, hIm, hSe, hLa, hLe, hCe⟩ ((sm.rf.tr (hs1.mono (by omega) (by omega))).up (by omega) (by omega))
        · skip
          obtain ⟨v, rfl⟩ := dI_ge c_3
          rw [dI_s]
          refine w_aload_n (n := 26) O dX7_mine_25 rfl rfl rfl ?_
          refine w_iload_n (n := 27) O dX7_mine_26 rfl rfl rfl ?_
          refine w_putf (n := 30) (fs' := [.ref (gb_ad G 50), .int (nI (T.2.2.2.1)), .ref (gb_ad G 51), .int (x3), .int (x4), .int (x5), .int (x6), .int (x7), .ref (gb_ad G 52), .int (nI (ln)), .int (nI (fa)), .int (x11), .int (x12), .int (x13), .int (x14), .int (x15), .int (x16), .ref (gb_ad G 53), .ref (gb_ad G 54), .int (nI 0), .int (nI 0), .int (nI (j)), .int (nI (v)), .ref (gb_ad G 55), .int (nI (sn)), .ref (gb_ad G 56), .int (x26), .ref (gb_ad G 57), .ref (gb_ad G 58), .ref (gb_ad G 59), .ref (gb_ad G 60), .int (nI (tn))]) O 22 dX7_mine_27 (by omega) h491 rfl (by decide) uX7 uf_X7_156 tyX7 tyX7_ok nmX7 rfl rfl rfl (Nat.le_of_ble_eq_true rfl) rfl rfl ?_
          refine w_aload_n (n := 31) O dX7_mine_30 rfl rfl rfl ?_
          refine w_cV (n := 34) (ro := some (.int (bI (pTrue T (mAm T (gGv T 0 0 (some j) v)) (mWt T (gGv T 0 0 (some j) v)))))) (R := fun mM' => (va_up m1 (49) (.inr (7, [.ref (gb_ad G 50), .int (nI (T.2.2.2.1)), .ref (gb_ad G 51), .int (x3), .int (x4), .int (x5), .int (x6), .int (x7), .ref (gb_ad G 52), .int (nI (ln)), .int (nI (fa)), .int (x11), .int (x12), .int (x13), .int (x14), .int (x15), .int (x16), .ref (gb_ad G 53), .ref (gb_ad G 54), .int (nI 0), .int (nI 0), .int (nI (j)), .int (nI (v)), .ref (gb_ad G 55), .int (nI (sn)), .ref (gb_ad G 56), .int (x26), .ref (gb_ad G 57), .ref (gb_ad G 58), .ref (gb_ad G 59), .ref (gb_ad G 60), .int (nI (tn))]))) = mM') (st := []) (st1 := [.int (bI (pTrue T (mAm T (gGv T 0 0 (some j) v)) (mWt T (gGv T 0 0 (some j) v))))]) (As := []) (b := 49) O dX7_mine_31 ul_X7_190 um_X7_rings (f_X7_rings (s := s) (T := T) (lo := 0) (li := 0) (to := (some j)) (tm := v) hW ⟨((va_up_ne _ _ (by decide)).trans ((hs1 (50) (by omega)).trans h50)), hpg, _, _, _, _, _, _, _, _, _, _, _, _, _, _, _, _, (va_up_self _ _ _)⟩ ok (fun k hk => by cases hk; omega) (by omega) (by decide) (by decide)  ⟨rfl, rfl⟩) rfl (by omega) (va_up_self _ _ _) rfl rfl rfl rfl (by decide) (Nat.le_of_ble_eq_true rfl) rfl (fun mhM_4 hM_4 => ?_)
          subst hM_4
          have emv : pTrue T (mAm T (gGv T 0 0 (some j) v)) (mWt T (gGv T 0 0 (some j) v)) = mineB T j v := by rw [gGv_told]; rfl
          refine w_if_eqB (n := 37) (tgt := 41) O dX7_mine_34 (by decide) rfl (fun c_5 => ?_) (fun c_5 => ?_)
          · skip
            refine w_iload_n (n := 42) O dX7_mine_41 rfl rfl rfl ?_
            refine w_istore_n (n := 43) (lv' := [(2, .int (oI fo)), (0, .ref (gb_ad G 49)), (1, .int (nI (j))), (3, .int (nI (v)))]) O dX7_mine_42 rfl (by decide) rfl rfl ?_
            refine w_iinc (n := 46) (lv' := [(3, .int (nI (v) + (-1))), (2, .int (oI fo)), (0, .ref (gb_ad G 49)), (1, .int (nI (j)))]) O dX7_mine_43 rfl (v := -1) (by decide) (by decide) rfl rfl ?_
            rw [dI_dec]
            refine w_goto (tgt := 21) O dX7_mine_46 (by decide) ?_
            refine w_lv (lv2 := [(0, .ref (gb_ad G 49)), (1, .int (nI (j))), (2, .int (oI fo)), (3, .int (dI v))]) [2, 3, 1, 0] rfl ?_
            exact ih_LI _ (by omega) v fo _ _ rfl (by omega) (dn_no hdn (emv.symm.trans c_5)) (va_up_self _ _ _) (by omega) ((sm.rf.tr (hs1.mono (by omega) (by omega))).up (by omega) (by omega))
          · skip
            refine w_iload_n (n := 38) O dX7_mine_37 rfl rfl rfl ?_
            refine w_goto (tgt := 42) O dX7_mine_38 (by decide) ?_
            refine w_istore_n (n := 43) (lv' := [(2, .int (nI (v))), (0, .ref (gb_ad G 49)), (1, .int (nI (j))), (3, .int (nI (v)))]) O dX7_mine_42 rfl (by decide) rfl rfl ?_
            refine w_iinc (n := 46) (lv' := [(3, .int (nI (v) + (-1))), (2, .int (nI (v))), (0, .ref (gb_ad G 49)), (1, .int (nI (j)))]) O dX7_mine_43 rfl (v := -1) (by decide) (by decide) rfl rfl ?_
            rw [dI_dec]
            refine w_goto (tgt := 21) O dX7_mine_46 (by decide) ?_
            refine w_lv (lv2 := [(0, .ref (gb_ad G 49)), (1, .int (nI (j))), (2, .int (nI (v))), (3, .int (dI v))]) [2, 3, 1, 0] rfl ?_
            exact ih_LI _ (by omega) v (some v) _ _ rfl (by omega) (dn_yes (fo := fo) (emv.symm.trans c_5) (by omega)) (va_up_self _ _ _) (by omega) ((sm.rf.tr (hs1.mono (by omega) (by omega))).up (by omega) (by omega))
    rw [show nI 40 = dI 41 by decide]
    refine w_lv (lv2 := [(0, .ref (gb_ad G 49)), (1, .int (nI (j))), (2, .int (-4)), (3, .int (dI 41))]) [2, 3, 1, 0] rfl ?_
    exact LI _ 41 none _ tm rfl (Nat.le_refl _) (dn_0 _ _) (va_up_self _ _ _) htm (sm.rf.up (by omega) (by omega))
  · skip
    refine w_iconst (n := 9) O dX7_mine_8 (v := (-1)) (by decide) rfl ?_
    refine w_iret O dX7_mine_9 ?_
    have e0 : a_mine T g = -1 := by unfold a_mine; rw [if_neg (by rw [c_2]; decide)]
    rw [e0] at hQ
    try dsimp only at hQ
    exact hQ (mM) ⟨_, _, _, _, _, _, _, _, _, _, _, _, _, _, _, _, _, _, _, _, h49, h50, h51, h52, h53, h54, h55, h56, h57, h58, h59, h60, htm, hpg, hIm, hSe, hLa, hLe, hCe⟩ sm.rf
set_option maxRecDepth 100000 in
set_option maxHeartbeats 4000000 in
theorem f_X7_least {G : gb_G} (hW : gW G) {Q : Option Value → gb_M → Prop} {mM : gb_M} {T : Tw} {im : Nat → Tw} {kp : Nat → Bool} {bs : Nat → Nat} {ln fa : Nat} {st sf : Nat → Nat} {sn : Nat} {sh : Sh} {sc : Nat → Nat → Int32} {tn : Nat} (hok : okS T im kp bs ln fa st sf sn sh tn) (hM : isMW G mM T im kp bs ln fa st sf sn sh sc tn) {x : Int32}  (hQ : ∀ M', isMW G M' T im kp bs ln fa st sf sn sh sc tn → sm mM M' 49 60 → Q (some (.int (a_least T x))) M') : Fn G 8 yX7_least cX7_least 5 (some .int) [.ref (gb_ad G 49), .int (x)] mM Q := by
  obtain ⟨s, se, le, rp, te, la, ce, tm, x3, x4, x5, x6, x7, x11, x12, x13, x14, x15, x16, x26, h49, h50, h51, h52, h53, h54, h55, h56, h57, h58, h59, h60, htm, hpg, hIm, hSe, hLa, hLe, hCe⟩ := hM
  have ok := hok.1
  have hn4 := ok.1
  have hst9 := hok.2.1
  have hln := hok.2.2.2.1
  have hsn6 := hok.2.2.2.2.2.2.1
  have hN := hW.2.2.1
  refine Fn.of hW.1 [(0, .ref (gb_ad G 49)), (1, .int (x))] (by decide) (Nat.le_of_ble_eq_true rfl) rfl ?_
  intro X O
  refine w_iload_n (n := 1) O dX7_least_0 rfl rfl rfl ?_
  refine w_cS (n := 4) (ro := some (.int (bI (wIn (x) (nI 0) (nI 2))))) (R := fun mM' => mM = mM') (st := []) (st1 := [.int (bI (wIn (x) (nI 0) (nI 2)))]) (As := [.int (x)]) O dX7_least_1 ul_X7_187 um_X7_isMetal (f_X7_isMetal hW ⟨rfl, rfl⟩) rfl rfl rfl (by decide) (Nat.le_of_ble_eq_true rfl) rfl (fun mhM_1 hM_1 => ?_)
  subst hM_1
  refine w_if_neB (n := 7) (tgt := 9) O dX7_least_4 (by decide) rfl (fun c_2 => ?_) (fun c_2 => ?_)
  · skip
    have hr_j := c_2
    obtain ⟨j, ja, jb, rfl⟩ := wIn_t (by omega) c_2 (by omega)
    have cl_j : (nI j).toNatClampNeg = j := nI_clamp (by omega)
    refine w_aload_n (n := 10) O dX7_least_9 rfl rfl rfl ?_
    refine w_getf (n := 13) O 0 dX7_least_10 (by omega) h49 rfl (by decide) uX7 uf_X7_7 rfl rfl ?_
    refine w_bipush (n := 15) O dX7_least_13 (v := (nI 21)) (by decide) rfl ?_
    refine w_iload_n (n := 16) O dX7_least_15 rfl rfl rfl ?_
    refine w_iaddN (n := 17) O dX7_least_16 rfl ?_
    refine w_ialdP (n := 18) (v := T.2.1 j) O dX7_least_17 hW.2.1 (by omega) h50 (by omega) (by decide) (by omega) (hpg.2.2.1 j (by omega)).1 rfl ?_
    refine w_istore_n (n := 19) (lv' := [(2, .int (nI (T.2.1 j))), (0, .ref (gb_ad G 49)), (1, .int (nI (j)))]) O dX7_least_18 rfl (by decide) rfl rfl ?_
    refine w_bipush (n := 21) O dX7_least_19 (v := (-4)) (by decide) rfl ?_
    refine w_istore_n (n := 22) (lv' := [(3, .int (-4)), (2, .int (nI (T.2.1 j))), (0, .ref (gb_ad G 49)), (1, .int (nI (j)))]) O dX7_least_21 rfl (by decide) rfl rfl ?_
    refine w_bipush (n := 24) O dX7_least_22 (v := (nI 40)) (by decide) rfl ?_
    refine w_istore (n := 26) (lv' := [(4, .int (nI 40)), (3, .int (-4)), (2, .int (nI (T.2.1 j))), (0, .ref (gb_ad G 49)), (1, .int (nI (j)))]) O dX7_least_24 (by decide) rfl rfl ?_
    have LL : ∀ (k : Nat) (kv : Nat) (fo : Option Nat) (s1 : Nat → Nat) (m1 : gb_M), kv = k → kv ≤ 41 → dnI (leastB T j) 41 kv fo → m1 50 = IA G 150 (pgI s1) → (∀ k2, ¬ k2 = 21 + j → s1 k2 = s k2) → sm mM m1 50 50 → Wm G X 5 Q 26 [(0, .ref (gb_ad G 49)), (1, .int (nI (j))), (2, .int (nI (T.2.1 j))), (3, .int (oI fo)), (4, .int (dI kv))] [] m1 := by
      intro k
      induction k using Nat.strongRecOn with
      | ind k ih_LL =>
        intro kv fo s1 m1 hk hkv hdn h501 hko hs1
        refine w_iload (n := 28) O dX7_least_26 rfl rfl ?_
        refine w_if_lt (n := 31) (tgt := 62) O dX7_least_28 (by decide) rfl (fun c_3 => ?_) (fun c_3 => ?_)
        · skip
          have hk0 := dI_lt (by omega) c_3
          subst hk0
          refine w_aload_n (n := 63) O dX7_least_62 rfl rfl rfl ?_
          refine w_getf (n := 66) O 0 dX7_least_63 (by omega) ((hs1 (49) (by omega)).trans h49) rfl (by decide) uX7 uf_X7_7 rfl rfl ?_
          refine w_bipush (n := 68) O dX7_least_66 (v := (nI 21)) (by decide) rfl ?_
          refine w_iload_n (n := 69) O dX7_least_68 rfl rfl rfl ?_
          refine w_iaddN (n := 70) O dX7_least_69 rfl ?_
          refine w_iload_n (n := 71) O dX7_least_70 rfl rfl rfl ?_
          refine w_iastP (n := 72) (v := T.2.1 j) O dX7_least_71 hW.2.1 (by omega) h501 (by omega) (by decide) (pgI_nv (by omega)) rfl ?_
          refine w_iload_n (n := 73) O dX7_least_72 rfl rfl rfl ?_
          refine w_iret O dX7_least_73 ?_
          have hsame : ∀ k2, upN s1 (21 + j) (T.2.1 j) k2 = s k2 := fun k2 => by by_cases e : k2 = 21 + j; (rw [e, upN_self]; exact (hpg.2.2.1 j (by omega)).1.symm); (rw [upN_ne _ _ e]; exact hko k2 e)
          have e0 : a_least T (nI j) = (oI fo) := by unfold a_least; rw [if_pos hr_j, cl_j, dn_end hdn]
          rw [e0] at hQ
          try dsimp only at hQ
          exact hQ ((va_up m1 (50) (IA G 150 (pgI (upN s1 (21 + j) (T.2.1 j)))))) ⟨_, _, _, _, _, _, _, _, _, _, _, _, _, _, _, _, _, _, _, _, ((va_up_ne _ _ (by decide)).trans ((hs1 (49) (by omega)).trans h49)), (va_up_self _ _ _), ((va_up_ne _ _ (by decide)).trans ((hs1 (51) (by omega)).trans h51)), ((va_up_ne _ _ (by decide)).trans ((hs1 (52) (by omega)).trans h52)), ((va_up_ne _ _ (by decide)).trans ((hs1 (53) (by omega)).trans h53)), ((va_up_ne _ _ (by decide)).trans ((hs1 (54) (by omega)).trans h54)), ((va_up_ne _ _ (by decide)).trans ((hs1 (55) (by omega)).trans h55)), ((va_up_ne _ _ (by decide)).trans ((hs1 (56) (by omega)).trans h56)), ((va_up_ne _ _ (by decide)).trans ((hs1 (57) (by omega)).trans h57)), ((va_up_ne _ _ (by decide)).trans ((hs1 (58) (by omega)).trans h58)), ((va_up_ne _ _ (by decide)).trans ((hs1 (59) (by omega)).trans h59)), ((va_up_ne _ _ (by decide)).trans ((hs1 (60) (by omega)).trans h60)), htm, (pg0_cong hpg (fun k2 _ => hsame k2)), (imK hIm (fun k2 _ => hsame k2)), hSe, hLa, hLe, hCe⟩ ((sm.rf.tr (hs1.mono (by omega) (by omega))).up (by omega) (by omega))
        · skip
          obtain ⟨v, rfl⟩ := dI_ge c_3
          rw [dI_s]
          refine w_aload_n (n := 32) O dX7_least_31 rfl rfl rfl ?_
          refine w_getf (n := 35) O 0 dX7_least_32 (by omega) ((hs1 (49) (by omega)).trans h49) rfl (by decide) uX7 uf_X7_7 rfl rfl ?_
          refine w_bipush (n := 37) O dX7_least_35 (v := (nI 21)) (by decide) rfl ?_
          refine w_iload_n (n := 38) O dX7_least_37 rfl rfl rfl ?_
          refine w_iaddN (n := 39) O dX7_least_38 rfl ?_
          refine w_iload (n := 41) O dX7_least_39 rfl rfl ?_
          refine w_iastP (n := 42) (v := v) O dX7_least_41 hW.2.1 (by omega) h501 (by omega) (by decide) (pgI_nv (by omega)) rfl ?_
          have hpv : pg0 (upN s1 (21 + j) v) (T.1, upN T.2.1 j v, T.2.2) := pg0_cong (pg_ad hpg (by omega)) (fun k2 hk2 => by by_cases e : k2 = 21 + j; (rw [e, upN_self, upN_self]); (rw [upN_ne _ _ e, upN_ne _ _ e]; exact hko k2 e))
          have okv := okT_ad ok (m := j) (show v ≤ 40 by omega)
          refine w_aload_n (n := 43) O dX7_least_42 rfl rfl rfl ?_
          refine w_cV (n := 46) (ro := some (.int (bI (tTrue ((T.1, upN T.2.1 j v, T.2.2)))))) (R := fun mM' => (va_up m1 (50) (IA G 150 (pgI (upN s1 (21 + j) v)))) = mM') (st := []) (st1 := [.int (bI (tTrue ((T.1, upN T.2.1 j v, T.2.2))))]) (As := []) (b := 49) O dX7_least_43 ul_X7_190 um_X7_rings (f_X7_rings0 (s := upN s1 (21 + j) v) (T := (T.1, upN T.2.1 j v, T.2.2)) (tm := tm) hW ⟨(va_up_self _ _ _), hpv, _, _, _, _, _, _, _, _, _, _, _, _, _, _, _, _, ((va_up_ne _ _ (by decide)).trans ((hs1 (49) (by omega)).trans h49))⟩ okv htm  ⟨rfl, rfl⟩) rfl (by omega) ((va_up_ne _ _ (by decide)).trans ((hs1 (49) (by omega)).trans h49)) rfl rfl rfl rfl (by decide) (Nat.le_of_ble_eq_true rfl) rfl (fun mhM_4 hM_4 => ?_)
          subst hM_4
          refine w_if_eqB (n := 49) (tgt := 54) O dX7_least_46 (by decide) rfl (fun c_5 => ?_) (fun c_5 => ?_)
          · skip
            refine w_iload_n (n := 55) O dX7_least_54 rfl rfl rfl ?_
            refine w_istore_n (n := 56) (lv' := [(3, .int (oI fo)), (0, .ref (gb_ad G 49)), (1, .int (nI (j))), (2, .int (nI (T.2.1 j))), (4, .int (nI (v)))]) O dX7_least_55 rfl (by decide) rfl rfl ?_
            refine w_iinc (n := 59) (lv' := [(4, .int (nI (v) + (-1))), (3, .int (oI fo)), (0, .ref (gb_ad G 49)), (1, .int (nI (j))), (2, .int (nI (T.2.1 j)))]) O dX7_least_56 rfl (v := -1) (by decide) (by decide) rfl rfl ?_
            rw [dI_dec]
            refine w_goto (tgt := 26) O dX7_least_59 (by decide) ?_
            refine w_lv (lv2 := [(0, .ref (gb_ad G 49)), (1, .int (nI (j))), (2, .int (nI (T.2.1 j))), (3, .int (oI fo)), (4, .int (dI v))]) [2, 3, 4, 1, 0] rfl ?_
            exact ih_LL _ (by omega) v fo _ _ rfl (by omega) (dn_no hdn c_5) (va_up_self _ _ _) (fun k2 hk2 => (upN_ne _ _ hk2).trans (hko k2 hk2)) ((sm.rf.tr (hs1.mono (by omega) (by omega))).up (by omega) (by omega))
          · skip
            refine w_iload (n := 51) O dX7_least_49 rfl rfl ?_
            refine w_goto (tgt := 55) O dX7_least_51 (by decide) ?_
            refine w_istore_n (n := 56) (lv' := [(3, .int (nI (v))), (0, .ref (gb_ad G 49)), (1, .int (nI (j))), (2, .int (nI (T.2.1 j))), (4, .int (nI (v)))]) O dX7_least_55 rfl (by decide) rfl rfl ?_
            refine w_iinc (n := 59) (lv' := [(4, .int (nI (v) + (-1))), (3, .int (nI (v))), (0, .ref (gb_ad G 49)), (1, .int (nI (j))), (2, .int (nI (T.2.1 j)))]) O dX7_least_56 rfl (v := -1) (by decide) (by decide) rfl rfl ?_
            rw [dI_dec]
            refine w_goto (tgt := 26) O dX7_least_59 (by decide) ?_
            refine w_lv (lv2 := [(0, .ref (gb_ad G 49)), (1, .int (nI (j))), (2, .int (nI (T.2.1 j))), (3, .int (nI (v))), (4, .int (dI v))]) [2, 3, 4, 1, 0] rfl ?_
            exact ih_LL _ (by omega) v (some v) _ _ rfl (by omega) (dn_yes (fo := fo) c_5 (by omega)) (va_up_self _ _ _) (fun k2 hk2 => (upN_ne _ _ hk2).trans (hko k2 hk2)) ((sm.rf.tr (hs1.mono (by omega) (by omega))).up (by omega) (by omega))
    rw [show nI 40 = dI 41 by decide]
    refine w_lv (lv2 := [(0, .ref (gb_ad G 49)), (1, .int (nI (j))), (2, .int (nI (T.2.1 j))), (3, .int (-4)), (4, .int (dI 41))]) [3, 4, 2, 1, 0] rfl ?_
    exact LL _ 41 none s mM rfl (Nat.le_refl _) (dn_0 _ _) h50 (fun _ _ => rfl) sm.rf
  · skip
    refine w_iconst (n := 8) O dX7_least_7 (v := (-1)) (by decide) rfl ?_
    refine w_iret O dX7_least_8 ?_
    have e0 : a_least T x = -1 := by unfold a_least; rw [if_neg (by rw [c_2]; decide)]
    rw [e0] at hQ
    try dsimp only at hQ
    exact hQ (mM) ⟨_, _, _, _, _, _, _, _, _, _, _, _, _, _, _, _, _, _, _, _, h49, h50, h51, h52, h53, h54, h55, h56, h57, h58, h59, h60, htm, hpg, hIm, hSe, hLa, hLe, hCe⟩ sm.rf
set_option maxRecDepth 100000 in
set_option maxHeartbeats 4000000 in
theorem f_X7_casts {G : gb_G} (hW : gW G) {Q : Option Value → gb_M → Prop} {mM : gb_M} {T : Tw} {im : Nat → Tw} {kp : Nat → Bool} {bs : Nat → Nat} {ln fa : Nat} {st sf : Nat → Nat} {sn : Nat} {sh : Sh} {sc : Nat → Nat → Int32} {tn : Nat} (hok : okS T im kp bs ln fa st sf sn sh tn) (hM : isMW G mM T im kp bs ln fa st sf sn sh sc tn) {x : Int32}  (hQ : ∀ M', isMW G M' T im kp bs ln fa st sf sn sh sc tn → sm mM M' 49 60 → Q (some (.int (a_casts T x))) M') : Fn G 8 yX7_casts cX7_casts 6 (some .int) [.ref (gb_ad G 49), .int (x)] mM Q := by
  obtain ⟨s, se, le, rp, te, la, ce, tm, x3, x4, x5, x6, x7, x11, x12, x13, x14, x15, x16, x26, h49, h50, h51, h52, h53, h54, h55, h56, h57, h58, h59, h60, htm, hpg, hIm, hSe, hLa, hLe, hCe⟩ := hM
  have ok := hok.1
  have hn4 := ok.1
  have hst9 := hok.2.1
  have hln := hok.2.2.2.1
  have hsn6 := hok.2.2.2.2.2.2.1
  have hN := hW.2.2.1
  refine Fn.of hW.1 [(0, .ref (gb_ad G 49)), (1, .int (x))] (by decide) (Nat.le_of_ble_eq_true rfl) rfl ?_
  intro X O
  refine w_iload_n (n := 1) O dX7_casts_0 rfl rfl rfl ?_
  refine w_i2l (n := 2) O dX7_casts_1 rfl ?_
  refine w_lconst (n := 3) O dX7_casts_2 (v := lN 0) (by decide) rfl ?_
  refine w_lconst (n := 4) O dX7_casts_3 (v := lN 1) (by decide) rfl ?_
  refine w_cS (n := 7) (ro := some (.int (bI (wIn (x) (nI 0) (nI 1))))) (R := fun mM' => mM = mM') (st := []) (st1 := [.int (bI (wIn (x) (nI 0) (nI 1)))]) (As := [.long ((x).toInt64), .long (lN 0), .long (lN 1)]) O dX7_casts_4 ul_X7_50 um_X7_in (f_X7_in (x := (x)) (y := (nI 0)) (z := (nI 1)) hW rfl (nI_l (by decide)).symm (nI_l (by decide)).symm ⟨rfl, rfl⟩) rfl rfl rfl (by decide) (Nat.le_of_ble_eq_true rfl) rfl (fun mhM_1 hM_1 => ?_)
  subst hM_1
  refine w_if_neB (n := 10) (tgt := 12) O dX7_casts_7 (by decide) rfl (fun c_2 => ?_) (fun c_2 => ?_)
  · skip
    have hr_j := c_2
    obtain ⟨j, ja, jb, rfl⟩ := wIn_t (by omega) c_2 (by omega)
    have cl_j : (nI j).toNatClampNeg = j := nI_clamp (by omega)
    refine w_aload_n (n := 13) O dX7_casts_12 rfl rfl rfl ?_
    refine w_iconst (n := 14) O dX7_casts_13 (v := (nI 0)) (by decide) rfl ?_
    refine w_bipush (n := 16) O dX7_casts_14 (v := (nI 120)) (by decide) rfl ?_
    refine w_cV (n := 19) (ro := none) (R := fun mM' => mM' 50 = IA G 150 (pgI (cpS s 0 120)) ∧ sm mM mM' 50 50) (st := []) (st1 := []) (As := [.int (nI 0), .int (nI 120)]) (b := 49) O dX7_casts_16 ul_X7_224 um_X7_copies (f_X7_copies (s := s) (T := T) (lo := 0) (li := 0) (to := none) (tm := tm) hW ⟨h50, hpg, _, _, _, _, _, _, _, _, _, _, _, _, _, _, _, _, h49⟩ (by omega) (by omega) (by omega) (by omega) (by omega) (fun M' h1 h2 => ⟨rfl, h1, h2⟩)) rfl (by omega) h49 rfl rfl rfl rfl (by decide) (Nat.le_of_ble_eq_true rfl) rfl (fun mhM_3 hM_3 => ?_)
    obtain ⟨hphM_3, hshM_3⟩ := hM_3
    refine w_iconst (n := 20) O dX7_casts_19 (v := (nI 0)) (by decide) rfl ?_
    refine w_istore_n (n := 21) (lv' := [(2, .int (nI 0)), (0, .ref (gb_ad G 49)), (1, .int (nI (j)))]) O dX7_casts_20 rfl (by decide) rfl rfl ?_
    refine w_bipush (n := 23) O dX7_casts_21 (v := (-4)) (by decide) rfl ?_
    refine w_istore_n (n := 24) (lv' := [(3, .int (-4)), (2, .int (nI 0)), (0, .ref (gb_ad G 49)), (1, .int (nI (j)))]) O dX7_casts_23 rfl (by decide) rfl rfl ?_
    refine w_aload_n (n := 25) O dX7_casts_24 rfl rfl rfl ?_
    refine w_cV (n := 28) (ro := some (.int (oI (hMost T)))) (R := fun mM' => mhM_3 = mM') (st := []) (st1 := [.int (oI (hMost T))]) (As := []) (b := 49) O dX7_casts_25 ul_X7_228 um_X7_mostHeld (f_X7_mostHeld (s := cpS s 0 120) (T := T) (lo := 0) (li := 0) (to := none) (tm := tm) hW ⟨hphM_3, (pg_cp hpg (by omega)), _, _, _, _, _, _, _, _, _, _, _, _, _, _, _, _, ((hshM_3 (49) (by omega)).trans h49)⟩ ok  ⟨rfl, rfl⟩) rfl (by omega) ((hshM_3 (49) (by omega)).trans h49) rfl rfl rfl rfl (by decide) (Nat.le_of_ble_eq_true rfl) rfl (fun mhM_4 hM_4 => ?_)
    subst hM_4
    refine w_istore (n := 30) (lv' := [(4, .int (oI (hMost T))), (3, .int (-4)), (2, .int (nI 0)), (0, .ref (gb_ad G 49)), (1, .int (nI (j)))]) O dX7_casts_28 (by decide) rfl rfl ?_
    have LC : ∀ (k : Nat) (dn : Nat) (V : Tw) (l : Option Nat) (s1 : Nat → Nat) (m1 : gb_M), holdS V = k → holdS V + dn = holdS T → cRun (holdS T + 1) T 0 none = cRun (holdS T + 1 - dn) V dn l → okT V → V.2 = T.2 → m1 50 = IA G 150 (pgI s1) → pg0 s1 V → (∀ k2, 30 ≤ k2 → k2 < 150 → s1 k2 = cpS s 0 120 k2) → sm mM m1 50 50 → Wm G X 6 Q 30 [(0, .ref (gb_ad G 49)), (1, .int (nI (j))), (2, .int (nI (dn))), (3, .int (oI l)), (4, .int (oI (hMost V)))] [] m1 := by
      intro k
      induction k using Nat.strongRecOn with
      | ind k ih_LC =>
        intro dn V l s1 m1 hk hdn hrun okV hV2 h501 hpgV hag hs1
        have h491 : m1 49 = (.inr (7, [.ref (gb_ad G 50), .int (nI (V.2.2.2.1)), .ref (gb_ad G 51), .int (x3), .int (x4), .int (x5), .int (x6), .int (x7), .ref (gb_ad G 52), .int (nI (ln)), .int (nI (fa)), .int (x11), .int (x12), .int (x13), .int (x14), .int (x15), .int (x16), .ref (gb_ad G 53), .ref (gb_ad G 54), .int (nI 0), .int (nI 0), .int (oI none), .int (nI (tm)), .ref (gb_ad G 55), .int (nI (sn)), .ref (gb_ad G 56), .int (x26), .ref (gb_ad G 57), .ref (gb_ad G 58), .ref (gb_ad G 59), .ref (gb_ad G 60), .int (nI (tn))])) := by rw [hV2]; exact (hs1 49 (by omega)).trans h49
        have hVn4 := okV.1
        refine w_aload_n (n := 31) O dX7_casts_30 rfl rfl rfl ?_
        refine w_cV (n := 34) (ro := some (.int (bI (tTrue V)))) (R := fun mM' => m1 = mM') (st := []) (st1 := [.int (bI (tTrue V))]) (As := []) (b := 49) O dX7_casts_31 ul_X7_190 um_X7_rings (f_X7_rings0 (s := s1) (T := V) (tm := tm) hW ⟨h501, hpgV, _, _, _, _, _, _, _, _, _, _, _, _, _, _, _, _, h491⟩ okV htm  ⟨rfl, rfl⟩) rfl (by omega) h491 rfl rfl rfl rfl (by decide) (Nat.le_of_ble_eq_true rfl) rfl (fun mhM_5 hM_5 => ?_)
        subst hM_5
        refine w_if_neB (n := 37) (tgt := 73) O dX7_casts_34 (by decide) rfl (fun c_6 => ?_) (fun c_6 => ?_)
        · skip
          refine w_aload_n (n := 74) O dX7_casts_73 rfl rfl rfl ?_
          refine w_cV (n := 77) (ro := some (.int (bI (tTrue V)))) (R := fun mM' => m1 = mM') (st := []) (st1 := [.int (bI (tTrue V))]) (As := []) (b := 49) O dX7_casts_74 ul_X7_190 um_X7_rings (f_X7_rings0 (s := s1) (T := V) (tm := tm) hW ⟨h501, hpgV, _, _, _, _, _, _, _, _, _, _, _, _, _, _, _, _, h491⟩ okV htm  ⟨rfl, rfl⟩) rfl (by omega) h491 rfl rfl rfl rfl (by decide) (Nat.le_of_ble_eq_true rfl) rfl (fun mhM_7 hM_7 => ?_)
          subst hM_7
          refine w_istore (n := 79) (lv' := [(5, .int (bI (tTrue V))), (0, .ref (gb_ad G 49)), (1, .int (nI (j))), (2, .int (nI (dn))), (3, .int (oI l)), (4, .int (oI (hMost V)))]) O dX7_casts_77 (by decide) rfl rfl ?_
          refine w_aload_n (n := 80) O dX7_casts_79 rfl rfl rfl ?_
          refine w_bipush (n := 82) O dX7_casts_80 (v := (nI 120)) (by decide) rfl ?_
          refine w_iconst (n := 83) O dX7_casts_82 (v := (nI 0)) (by decide) rfl ?_
          refine w_cV (n := 86) (ro := none) (R := fun mM' => mM' 50 = IA G 150 (pgI (cpS s1 120 0)) ∧ sm m1 mM' 50 50) (st := []) (st1 := []) (As := [.int (nI 120), .int (nI 0)]) (b := 49) O dX7_casts_83 ul_X7_224 um_X7_copies (f_X7_copies (s := s1) (T := V) (lo := 0) (li := 0) (to := none) (tm := tm) hW ⟨h501, hpgV, _, _, _, _, _, _, _, _, _, _, _, _, _, _, _, _, h491⟩ (by omega) (by omega) (by omega) (by omega) (by omega) (fun M' h1 h2 => ⟨rfl, h1, h2⟩)) rfl (by omega) h491 rfl rfl rfl rfl (by decide) (Nat.le_of_ble_eq_true rfl) rfl (fun mhM_8 hM_8 => ?_)
          obtain ⟨hphM_8, hshM_8⟩ := hM_8
          have hbk := pg_bk hag
          refine w_iload (n := 88) O dX7_casts_86 rfl rfl ?_
          refine w_if_neB (n := 91) (tgt := 96) O dX7_casts_88 (by decide) rfl (fun c_9 => ?_) (fun c_9 => ?_)
          · skip
            refine w_iload_n (n := 97) O dX7_casts_96 rfl rfl rfl ?_
            refine w_if_neN (n := 100) (tgt := 104) O dX7_casts_97 (by omega) (by decide) rfl (fun c_10 => ?_) (fun c_10 => ?_)
            · skip
              refine w_iload_n (n := 105) O dX7_casts_104 rfl rfl rfl ?_
              refine w_iret O dX7_casts_105 ?_
              have h49z : mhM_8 49 = (.inr (7, [.ref (gb_ad G 50), .int (nI (T.2.2.2.1)), .ref (gb_ad G 51), .int (x3), .int (x4), .int (x5), .int (x6), .int (x7), .ref (gb_ad G 52), .int (nI (ln)), .int (nI (fa)), .int (x11), .int (x12), .int (x13), .int (x14), .int (x15), .int (x16), .ref (gb_ad G 53), .ref (gb_ad G 54), .int (nI 0), .int (nI 0), .int (oI none), .int (nI (tm)), .ref (gb_ad G 55), .int (nI (sn)), .ref (gb_ad G 56), .int (x26), .ref (gb_ad G 57), .ref (gb_ad G 58), .ref (gb_ad G 59), .ref (gb_ad G 60), .int (nI (tn))])) := by rw [← hV2]; exact ((hshM_8 (49) (by omega)).trans h491)
              have e0 : a_casts T (nI j) = (oI l) := by unfold a_casts; rw [if_pos hr_j, hrun, show holdS T + 1 - dn = (holdS T - dn) + 1 by omega]; simp only [cRun]; rw [if_pos c_6]; exact if_neg (fun z => c_10 ((nI_eq (by omega) (by decide)).mp z))
              rw [e0] at hQ
              try dsimp only at hQ
              exact hQ (mhM_8) ⟨_, _, _, _, _, _, _, _, _, _, _, _, _, _, _, _, _, _, _, _, h49z, hphM_8, ((hshM_8 (51) (by omega)).trans ((hs1 (51) (by omega)).trans h51)), ((hshM_8 (52) (by omega)).trans ((hs1 (52) (by omega)).trans h52)), ((hshM_8 (53) (by omega)).trans ((hs1 (53) (by omega)).trans h53)), ((hshM_8 (54) (by omega)).trans ((hs1 (54) (by omega)).trans h54)), ((hshM_8 (55) (by omega)).trans ((hs1 (55) (by omega)).trans h55)), ((hshM_8 (56) (by omega)).trans ((hs1 (56) (by omega)).trans h56)), ((hshM_8 (57) (by omega)).trans ((hs1 (57) (by omega)).trans h57)), ((hshM_8 (58) (by omega)).trans ((hs1 (58) (by omega)).trans h58)), ((hshM_8 (59) (by omega)).trans ((hs1 (59) (by omega)).trans h59)), ((hshM_8 (60) (by omega)).trans ((hs1 (60) (by omega)).trans h60)), htm, (pg0_cong hpg (fun k2 hk2 => hbk k2 (by omega))), (imK2 hIm hbk), hSe, hLa, hLe, hCe⟩ ((sm.rf.tr (hs1.mono (by omega) (by omega))).tr (hshM_8.mono (by omega) (by omega)))
            · skip
              refine w_iload_n (n := 101) O dX7_casts_100 rfl rfl rfl ?_
              refine w_goto (tgt := 105) O dX7_casts_101 (by decide) ?_
              refine w_iret O dX7_casts_105 ?_
              have h49z : mhM_8 49 = (.inr (7, [.ref (gb_ad G 50), .int (nI (T.2.2.2.1)), .ref (gb_ad G 51), .int (x3), .int (x4), .int (x5), .int (x6), .int (x7), .ref (gb_ad G 52), .int (nI (ln)), .int (nI (fa)), .int (x11), .int (x12), .int (x13), .int (x14), .int (x15), .int (x16), .ref (gb_ad G 53), .ref (gb_ad G 54), .int (nI 0), .int (nI 0), .int (oI none), .int (nI (tm)), .ref (gb_ad G 55), .int (nI (sn)), .ref (gb_ad G 56), .int (x26), .ref (gb_ad G 57), .ref (gb_ad G 58), .ref (gb_ad G 59), .ref (gb_ad G 60), .int (nI (tn))])) := by rw [← hV2]; exact ((hshM_8 (49) (by omega)).trans h491)
              have e0 : a_casts T (nI j) = (nI (dn)) := by unfold a_casts; rw [if_pos hr_j, hrun, show holdS T + 1 - dn = (holdS T - dn) + 1 by omega]; simp only [cRun]; rw [if_pos c_6]; exact if_pos (by rw [c_10])
              rw [e0] at hQ
              try dsimp only at hQ
              exact hQ (mhM_8) ⟨_, _, _, _, _, _, _, _, _, _, _, _, _, _, _, _, _, _, _, _, h49z, hphM_8, ((hshM_8 (51) (by omega)).trans ((hs1 (51) (by omega)).trans h51)), ((hshM_8 (52) (by omega)).trans ((hs1 (52) (by omega)).trans h52)), ((hshM_8 (53) (by omega)).trans ((hs1 (53) (by omega)).trans h53)), ((hshM_8 (54) (by omega)).trans ((hs1 (54) (by omega)).trans h54)), ((hshM_8 (55) (by omega)).trans ((hs1 (55) (by omega)).trans h55)), ((hshM_8 (56) (by omega)).trans ((hs1 (56) (by omega)).trans h56)), ((hshM_8 (57) (by omega)).trans ((hs1 (57) (by omega)).trans h57)), ((hshM_8 (58) (by omega)).trans ((hs1 (58) (by omega)).trans h58)), ((hshM_8 (59) (by omega)).trans ((hs1 (59) (by omega)).trans h59)), ((hshM_8 (60) (by omega)).trans ((hs1 (60) (by omega)).trans h60)), htm, (pg0_cong hpg (fun k2 hk2 => hbk k2 (by omega))), (imK2 hIm hbk), hSe, hLa, hLe, hCe⟩ ((sm.rf.tr (hs1.mono (by omega) (by omega))).tr (hshM_8.mono (by omega) (by omega)))
          · skip
            refine w_bipush (n := 93) O dX7_casts_91 (v := (-4)) (by decide) rfl ?_
            refine w_goto (tgt := 105) O dX7_casts_93 (by decide) ?_
            refine w_iret O dX7_casts_105 ?_
            exact absurd (c_6.symm.trans c_9) (by decide)
        · skip
          refine w_iload (n := 39) O dX7_casts_37 rfl rfl ?_
          refine w_bipush (n := 41) O dX7_casts_39 (v := (-4)) (by decide) rfl ?_
          refine w_icmp_eq (n := 44) (tgt := 73) O dX7_casts_41 (by decide) rfl (fun c_11 => ?_) (fun c_11 => ?_)
          · skip
            have hnn : hMost V = none := oI_none (fun k hk => by have := (sMost_in hk).1; omega) c_11
            refine w_aload_n (n := 74) O dX7_casts_73 rfl rfl rfl ?_
            refine w_cV (n := 77) (ro := some (.int (bI (tTrue V)))) (R := fun mM' => m1 = mM') (st := []) (st1 := [.int (bI (tTrue V))]) (As := []) (b := 49) O dX7_casts_74 ul_X7_190 um_X7_rings (f_X7_rings0 (s := s1) (T := V) (tm := tm) hW ⟨h501, hpgV, _, _, _, _, _, _, _, _, _, _, _, _, _, _, _, _, h491⟩ okV htm  ⟨rfl, rfl⟩) rfl (by omega) h491 rfl rfl rfl rfl (by decide) (Nat.le_of_ble_eq_true rfl) rfl (fun mhM_12 hM_12 => ?_)
            subst hM_12
            refine w_istore (n := 79) (lv' := [(5, .int (bI (tTrue V))), (0, .ref (gb_ad G 49)), (1, .int (nI (j))), (2, .int (nI (dn))), (3, .int (oI l)), (4, .int (oI (hMost V)))]) O dX7_casts_77 (by decide) rfl rfl ?_
            refine w_aload_n (n := 80) O dX7_casts_79 rfl rfl rfl ?_
            refine w_bipush (n := 82) O dX7_casts_80 (v := (nI 120)) (by decide) rfl ?_
            refine w_iconst (n := 83) O dX7_casts_82 (v := (nI 0)) (by decide) rfl ?_
            refine w_cV (n := 86) (ro := none) (R := fun mM' => mM' 50 = IA G 150 (pgI (cpS s1 120 0)) ∧ sm m1 mM' 50 50) (st := []) (st1 := []) (As := [.int (nI 120), .int (nI 0)]) (b := 49) O dX7_casts_83 ul_X7_224 um_X7_copies (f_X7_copies (s := s1) (T := V) (lo := 0) (li := 0) (to := none) (tm := tm) hW ⟨h501, hpgV, _, _, _, _, _, _, _, _, _, _, _, _, _, _, _, _, h491⟩ (by omega) (by omega) (by omega) (by omega) (by omega) (fun M' h1 h2 => ⟨rfl, h1, h2⟩)) rfl (by omega) h491 rfl rfl rfl rfl (by decide) (Nat.le_of_ble_eq_true rfl) rfl (fun mhM_13 hM_13 => ?_)
            obtain ⟨hphM_13, hshM_13⟩ := hM_13
            have hbk := pg_bk hag
            refine w_iload (n := 88) O dX7_casts_86 rfl rfl ?_
            refine w_if_neB (n := 91) (tgt := 96) O dX7_casts_88 (by decide) rfl (fun c_14 => ?_) (fun c_14 => ?_)
            · skip
              refine w_iload_n (n := 97) O dX7_casts_96 rfl rfl rfl ?_
              refine w_if_neN (n := 100) (tgt := 104) O dX7_casts_97 (by omega) (by decide) rfl (fun c_15 => ?_) (fun c_15 => ?_)
              · skip
                refine w_iload_n (n := 105) O dX7_casts_104 rfl rfl rfl ?_
                refine w_iret O dX7_casts_105 ?_
                exact absurd (c_6.symm.trans c_14) (by decide)
              · skip
                refine w_iload_n (n := 101) O dX7_casts_100 rfl rfl rfl ?_
                refine w_goto (tgt := 105) O dX7_casts_101 (by decide) ?_
                refine w_iret O dX7_casts_105 ?_
                exact absurd (c_6.symm.trans c_14) (by decide)
            · skip
              refine w_bipush (n := 93) O dX7_casts_91 (v := (-4)) (by decide) rfl ?_
              refine w_goto (tgt := 105) O dX7_casts_93 (by decide) ?_
              refine w_iret O dX7_casts_105 ?_
              have h49z : mhM_13 49 = (.inr (7, [.ref (gb_ad G 50), .int (nI (T.2.2.2.1)), .ref (gb_ad G 51), .int (x3), .int (x4), .int (x5), .int (x6), .int (x7), .ref (gb_ad G 52), .int (nI (ln)), .int (nI (fa)), .int (x11), .int (x12), .int (x13), .int (x14), .int (x15), .int (x16), .ref (gb_ad G 53), .ref (gb_ad G 54), .int (nI 0), .int (nI 0), .int (oI none), .int (nI (tm)), .ref (gb_ad G 55), .int (nI (sn)), .ref (gb_ad G 56), .int (x26), .ref (gb_ad G 57), .ref (gb_ad G 58), .ref (gb_ad G 59), .ref (gb_ad G 60), .int (nI (tn))])) := by rw [← hV2]; exact ((hshM_13 (49) (by omega)).trans h491)
              have e0 : a_casts T (nI j) = (-4) := by unfold a_casts; rw [if_pos hr_j, hrun, show holdS T + 1 - dn = (holdS T - dn) + 1 by omega]; simp only [cRun]; rw [if_neg (by rw [c_6]; decide), hnn]; rfl
              rw [e0] at hQ
              try dsimp only at hQ
              exact hQ (mhM_13) ⟨_, _, _, _, _, _, _, _, _, _, _, _, _, _, _, _, _, _, _, _, h49z, hphM_13, ((hshM_13 (51) (by omega)).trans ((hs1 (51) (by omega)).trans h51)), ((hshM_13 (52) (by omega)).trans ((hs1 (52) (by omega)).trans h52)), ((hshM_13 (53) (by omega)).trans ((hs1 (53) (by omega)).trans h53)), ((hshM_13 (54) (by omega)).trans ((hs1 (54) (by omega)).trans h54)), ((hshM_13 (55) (by omega)).trans ((hs1 (55) (by omega)).trans h55)), ((hshM_13 (56) (by omega)).trans ((hs1 (56) (by omega)).trans h56)), ((hshM_13 (57) (by omega)).trans ((hs1 (57) (by omega)).trans h57)), ((hshM_13 (58) (by omega)).trans ((hs1 (58) (by omega)).trans h58)), ((hshM_13 (59) (by omega)).trans ((hs1 (59) (by omega)).trans h59)), ((hshM_13 (60) (by omega)).trans ((hs1 (60) (by omega)).trans h60)), htm, (pg0_cong hpg (fun k2 hk2 => hbk k2 (by omega))), (imK2 hIm hbk), hSe, hLa, hLe, hCe⟩ ((sm.rf.tr (hs1.mono (by omega) (by omega))).tr (hshM_13.mono (by omega) (by omega)))
          · skip
            obtain ⟨q, hq⟩ := oI_some c_11
            have hqi := sMost_in hq
            have hqn := hqi.1
            have hq9 := (okV.2.1 q (by omega)).2.2.2.2.2
            have hqp : 0 < V.1 (q * 6 + 5) := hqi.2
            rw [show oI (hMost V) = nI q by rw [hq]; rfl]
            refine w_aload_n (n := 45) O dX7_casts_44 rfl rfl rfl ?_
            refine w_getf (n := 48) O 0 dX7_casts_45 (by omega) h491 rfl (by decide) uX7 uf_X7_7 rfl rfl ?_
            refine w_bipush (n := 50) O dX7_casts_48 (v := (nI 16)) (by decide) rfl ?_
            refine w_iload (n := 52) O dX7_casts_50 rfl rfl ?_
            refine w_iaddN (n := 53) O dX7_casts_52 rfl ?_
            refine w_dup2 (n := 54) O dX7_casts_53 rfl rfl rfl ?_
            refine w_ialdP (n := 55) (v := V.1 (q * 6 + 5)) O dX7_casts_54 hW.2.1 (by omega) h501 (by omega) (by decide) (by omega) (hpgV.1 q (by omega)).2.2.2.2 rfl ?_
            refine w_iconst (n := 56) O dX7_casts_55 (v := (nI 1)) (by decide) rfl ?_
            refine w_isubN (n := 57) O dX7_casts_56 (by omega) rfl ?_
            refine w_iastP (n := 58) (v := ((V.1 (q * 6 + 5)) - 1)) O dX7_casts_57 hW.2.1 (by omega) h501 (by omega) (by decide) (pgI_nv (by omega)) rfl ?_
            have okC := okT_cStep okV (show q < 4 by omega)
            refine w_iincN (n := 61) (lv' := [(2, .int (nI (dn + 1))), (0, .ref (gb_ad G 49)), (1, .int (nI (j))), (3, .int (oI l)), (4, .int (nI (q)))]) O dX7_casts_58 rfl (by decide) rfl rfl ?_
            refine w_iload (n := 63) O dX7_casts_61 rfl rfl ?_
            refine w_istore_n (n := 64) (lv' := [(3, .int (nI (q))), (2, .int (nI (dn + 1))), (0, .ref (gb_ad G 49)), (1, .int (nI (j))), (4, .int (nI (q)))]) O dX7_casts_63 rfl (by decide) rfl rfl ?_
            refine w_aload_n (n := 65) O dX7_casts_64 rfl rfl rfl ?_
            refine w_cV (n := 68) (ro := some (.int (oI (hMost ((cStep V q)))))) (R := fun mM' => (va_up m1 (50) (IA G 150 (pgI (upN s1 (16 + q) ((V.1 (q * 6 + 5)) - 1))))) = mM') (st := []) (st1 := [.int (oI (hMost ((cStep V q))))]) (As := []) (b := 49) O dX7_casts_65 ul_X7_228 um_X7_mostHeld (f_X7_mostHeld (s := upN s1 (16 + q) ((V.1 (q * 6 + 5)) - 1)) (T := (cStep V q)) (lo := 0) (li := 0) (to := none) (tm := tm) hW ⟨(va_up_self _ _ _), (pg_ho hpgV (by omega)), _, _, _, _, _, _, _, _, _, _, _, _, _, _, _, _, ((va_up_ne _ _ (by decide)).trans h491)⟩ okC  ⟨rfl, rfl⟩) rfl (by omega) ((va_up_ne _ _ (by decide)).trans h491) rfl rfl rfl rfl (by decide) (Nat.le_of_ble_eq_true rfl) rfl (fun mhM_16 hM_16 => ?_)
            subst hM_16
            refine w_istore (n := 70) (lv' := [(4, .int (oI (hMost ((cStep V q))))), (3, .int (nI (q))), (2, .int (nI (dn + 1))), (0, .ref (gb_ad G 49)), (1, .int (nI (j)))]) O dX7_casts_68 (by decide) rfl rfl ?_
            refine w_goto (tgt := 30) O dX7_casts_70 (by decide) ?_
            have hstp := holdS_step (V := V) (q := q) (by omega) hqp
            refine w_lv (lv2 := [(0, .ref (gb_ad G 49)), (1, .int (nI (j))), (2, .int (nI (dn + 1))), (3, .int (nI (q))), (4, .int (oI (hMost ((cStep V q)))))]) [3, 4, 2, 1, 0] rfl ?_
            exact ih_LC _ (by omega) (dn + 1) (cStep V q) (some q) _ _ rfl (by have := holdS_step (V := V) (q := q) (by omega) hqp; omega) (by rw [hrun, show holdS T + 1 - dn = (holdS T + 1 - (dn + 1)) + 1 by omega]; simp only [cRun]; rw [if_neg (by rw [c_6]; decide), hq]) (okT_cStep okV (by omega)) hV2 (va_up_self _ _ _) (pg_ho hpgV (by omega)) (fun k2 h1 h2 => (upN_ne _ _ (by omega)).trans (hag k2 h1 h2)) ((sm.rf.tr (hs1.mono (by omega) (by omega))).up (by omega) (by omega))
    refine w_lv (lv2 := [(0, .ref (gb_ad G 49)), (1, .int (nI (j))), (2, .int (nI 0)), (3, .int (-4)), (4, .int (oI (hMost T)))]) [3, 4, 2, 1, 0] rfl ?_
    exact LC _ 0 T none _ _ rfl (by omega) rfl ok rfl hphM_3 (pg_cp hpg (by omega)) (fun _ _ _ => rfl) (sm.rf.tr (hshM_3.mono (by omega) (by omega)))
  · skip
    refine w_iconst (n := 11) O dX7_casts_10 (v := (-1)) (by decide) rfl ?_
    refine w_iret O dX7_casts_11 ?_
    have e0 : a_casts T x = -1 := by unfold a_casts; rw [if_neg (by rw [c_2]; decide)]
    rw [e0] at hQ
    try dsimp only at hQ
    exact hQ (mM) ⟨_, _, _, _, _, _, _, _, _, _, _, _, _, _, _, _, _, _, _, _, h49, h50, h51, h52, h53, h54, h55, h56, h57, h58, h59, h60, htm, hpg, hIm, hSe, hLa, hLe, hCe⟩ sm.rf
