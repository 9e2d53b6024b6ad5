set_option maxRecDepth 100000 in
set_option maxHeartbeats 4000000 in
theorem f_X6_commonDivisor {G : gb_G} (hW : gW G) {Q : Option Value → gb_M → Prop} {mM : gb_M} {a b : Nat} (ha : a ≤ 100000000) (hb : b ≤ 10000) (hb0 : 0 < b) (hQ : Q (some (.long (lN (Nat.gcd a b)))) mM) : Fn G 1 yX6_commonDivisor cX6_commonDivisor 11 (some .long) [.long (lN a), .long (lN b)] mM Q := by
  have hN := hW.2.2.1
  refine Fn.of hW.1 [(0, .long (lN a)), (2, .long (lN b))] (by decide) (Nat.le_of_ble_eq_true rfl) rfl ?_
  intro X O
  refine w_lload_n (n := 1) O dX6_commonDivisor_0 rfl rfl rfl ?_
  refine w_lstore (n := 3) (lv' := [(4, .long (lN a)), (0, .long (lN a)), (2, .long (lN b))]) O dX6_commonDivisor_1 (by decide) rfl rfl ?_
  refine w_lload_n (n := 4) O dX6_commonDivisor_3 rfl rfl rfl ?_
  refine w_lstore (n := 6) (lv' := [(6, .long (lN b)), (4, .long (lN a)), (0, .long (lN a)), (2, .long (lN b))]) O dX6_commonDivisor_4 (by decide) rfl rfl ?_
  refine w_iconst (n := 7) O dX6_commonDivisor_6 (v := (nI 0)) (by decide) rfl ?_
  refine w_istore (n := 9) (lv' := [(8, .int (nI 0)), (6, .long (lN b)), (4, .long (lN a)), (0, .long (lN a)), (2, .long (lN b))]) O dX6_commonDivisor_7 (by decide) rfl rfl ?_
  have CD : ∀ (k : Nat) (t g l : Nat), 100 - t = k → t ≤ 100 → Nat.gcd g l = Nat.gcd a b → g ≤ 100000000 → l ≤ 10000 → (t = 0 ∧ g = a ∧ l = b) ∨ (l < g ∧ g * l * 2 ^ t ≤ 2 ^ 28) → Wm G X 11 Q 9 [(0, .long (lN a)), (2, .long (lN b)), (4, .long (lN g)), (6, .long (lN l)), (8, .int (nI (t)))] [] mM := by
    intro k
    induction k using Nat.strongRecOn with
    | ind k ih_CD =>
      intro t g l hk ht hgc hgb hlb hin
      refine w_iload (n := 11) O dX6_commonDivisor_9 rfl rfl ?_
      refine w_bipush (n := 13) O dX6_commonDivisor_11 (v := (nI 100)) (by decide) rfl ?_
      refine w_icmp_geN (n := 16) (tgt := 44) O dX6_commonDivisor_13 (by omega) (by omega) (by decide) rfl (fun c_1 => ?_) (fun c_1 => ?_)
      · skip
        have hl0 : l = 0 := by
          rcases hin with ⟨h1, h2, h3⟩ | ⟨h1, h2⟩
          · omega
          · rcases Nat.eq_zero_or_pos l with z | z
            · exact z
            · have h3 : 1 * 2 ^ t ≤ g * l * 2 ^ t := Nat.mul_le_mul_right _ (Nat.mul_pos (by omega) z)
              rw [show t = 100 by omega] at h2 h3; exact absurd (Nat.le_trans h3 h2) (by decide)
        subst hl0
        rw [Nat.gcd_zero_right] at hgc
        refine w_lconst (n := 45) O dX6_commonDivisor_44 (v := lN 1) (by decide) rfl ?_
        refine w_lload (n := 47) O dX6_commonDivisor_45 rfl rfl ?_
        refine w_mmaxL (n := 50) O dX6_commonDivisor_47 ul_X6_280 (by omega) (Nat.le_of_ble_eq_true rfl) rfl ?_
        refine w_topl (lN (max (1) (g))) (lmax_K (by omega) (by omega)) ?_
        refine w_lret O dX6_commonDivisor_50 ?_
        have hgp : 0 < Nat.gcd a b := Nat.gcd_pos_of_pos_right a hb0
        rw [← hgc, ← show max 1 g = g by omega] at hQ
        exact hQ
      · skip
        refine w_lload (n := 18) O dX6_commonDivisor_16 rfl rfl ?_
        refine w_lconst (n := 19) O dX6_commonDivisor_18 (v := lN 0) (by decide) rfl ?_
        refine w_lcmp (n := 20) O dX6_commonDivisor_19 rfl ?_
        refine w_if_le (n := 23) (tgt := 44) O dX6_commonDivisor_20 (by decide) rfl (fun c_2 => ?_) (fun c_2 => ?_)
        · skip
          have hl0 : l = 0 := by have := (cmp_le (a := l) (b := 0) (by omega) (by omega)).mp c_2; omega
          subst hl0
          rw [Nat.gcd_zero_right] at hgc
          refine w_lconst (n := 45) O dX6_commonDivisor_44 (v := lN 1) (by decide) rfl ?_
          refine w_lload (n := 47) O dX6_commonDivisor_45 rfl rfl ?_
          refine w_mmaxL (n := 50) O dX6_commonDivisor_47 ul_X6_280 (by omega) (Nat.le_of_ble_eq_true rfl) rfl ?_
          refine w_topl (lN (max (1) (g))) (lmax_K (by omega) (by omega)) ?_
          refine w_lret O dX6_commonDivisor_50 ?_
          have hgp : 0 < Nat.gcd a b := Nat.gcd_pos_of_pos_right a hb0
          rw [← hgc, ← show max 1 g = g by omega] at hQ
          exact hQ
        · skip
          have hl0 : 0 < l := by have := mt (cmp_le (a := l) (b := 0) (by omega) (by omega)).mpr c_2; omega
          have hpn : l * (g % l) * 2 ^ (t + 1) ≤ 2 ^ 28 := by
            rcases hin with ⟨h1, h2, h3⟩ | ⟨h1, h2⟩
            · subst h1; have h4 := Nat.mod_lt g hl0; have h5 : l * (g % l) ≤ 10000 * 10000 := Nat.mul_le_mul hlb (by omega); rw [show 0 + 1 = 1 from rfl, Nat.pow_one]; omega
            · have h4 := eu_half h1 hl0; rw [Nat.pow_succ, Nat.mul_comm (2 ^ t) 2, ← Nat.mul_assoc]; exact Nat.le_trans (Nat.mul_le_mul_right _ h4) h2
          refine w_lload (n := 25) O dX6_commonDivisor_23 rfl rfl ?_
          refine w_lload (n := 27) O dX6_commonDivisor_25 rfl rfl ?_
          refine w_lremK (n := 28) O dX6_commonDivisor_27 (by omega) (by omega) (by omega) rfl ?_
          refine w_lstore (n := 30) (lv' := [(9, .long (lN (g % l))), (0, .long (lN a)), (2, .long (lN b)), (4, .long (lN g)), (6, .long (lN l)), (8, .int (nI (t)))]) O dX6_commonDivisor_28 (by decide) rfl rfl ?_
          refine w_lload (n := 32) O dX6_commonDivisor_30 rfl rfl ?_
          refine w_lstore (n := 34) (lv' := [(4, .long (lN l)), (9, .long (lN (g % l))), (0, .long (lN a)), (2, .long (lN b)), (6, .long (lN l)), (8, .int (nI (t)))]) O dX6_commonDivisor_32 (by decide) rfl rfl ?_
          refine w_lload (n := 36) O dX6_commonDivisor_34 rfl rfl ?_
          refine w_lstore (n := 38) (lv' := [(6, .long (lN (g % l))), (4, .long (lN l)), (9, .long (lN (g % l))), (0, .long (lN a)), (2, .long (lN b)), (8, .int (nI (t)))]) O dX6_commonDivisor_36 (by decide) rfl rfl ?_
          refine w_iincN (n := 41) (lv' := [(8, .int (nI (t + 1))), (6, .long (lN (g % l))), (4, .long (lN l)), (9, .long (lN (g % l))), (0, .long (lN a)), (2, .long (lN b))]) O dX6_commonDivisor_38 rfl (by decide) rfl rfl ?_
          refine w_goto (tgt := 9) O dX6_commonDivisor_41 (by decide) ?_
          refine w_lv (lv2 := [(0, .long (lN a)), (2, .long (lN b)), (4, .long (lN l)), (6, .long (lN (g % l))), (8, .int (nI (t + 1)))]) [4, 5, 2, 1, 0] rfl ?_
          exact ih_CD _ (by omega) (t + 1) l (g % l) rfl (by omega) (by rw [← hgc, Nat.gcd_comm g l, Nat.gcd_rec l g, Nat.gcd_comm]) (by omega) (by have := Nat.mod_lt g hl0; omega) (Or.inr ⟨Nat.mod_lt g hl0, hpn⟩)
  refine w_lv (lv2 := [(0, .long (lN a)), (2, .long (lN b)), (4, .long (lN a)), (6, .long (lN b)), (8, .int (nI 0))]) [3, 4, 2, 1, 0] rfl ?_
  exact CD _ 0 a b rfl (by omega) rfl (by omega) (by omega) (Or.inl ⟨rfl, rfl, rfl⟩)
set_option maxRecDepth 100000 in
set_option maxHeartbeats 4000000 in
theorem f_X6_fraction {G : gb_G} (hW : gW G) {Q : Option Value → gb_M → Prop} {mM : gb_M} {tn : Nat} (hB : isB G mM tn) {T : Tw} (hT : isT G mM 1 T) (ok : okT T) {S x : Nat} (hS : S ≤ 100000000) (hx : x ≤ 1) (hQ : Q (some (.long (lN (fracN S (10 ^ T.2.2.2.1) x)))) mM) : Fn G 2 yX6_fraction cX6_fraction 8 (some .long) [.ref (gb_ad G 0), .long (lN S), .int (nI (x))] mM Q := by
  have hN := hW.2.2.1
  refine Fn.of hW.1 [(0, .ref (gb_ad G 0)), (1, .long (lN S)), (3, .int (nI (x)))] (by decide) (Nat.le_of_ble_eq_true rfl) rfl ?_
  intro X O
  have hn4 := ok.1
  refine w_lconst (n := 1) O dX6_fraction_0 (v := lN 1) (by decide) rfl ?_
  refine w_lstore (n := 3) (lv' := [(4, .long (lN 1)), (0, .ref (gb_ad G 0)), (1, .long (lN S)), (3, .int (nI (x)))]) O dX6_fraction_1 (by decide) rfl rfl ?_
  refine w_iconst (n := 4) O dX6_fraction_3 (v := (nI 0)) (by decide) rfl ?_
  refine w_istore (n := 6) (lv' := [(6, .int (nI 0)), (4, .long (lN 1)), (0, .ref (gb_ad G 0)), (1, .long (lN S)), (3, .int (nI (x)))]) O dX6_fraction_4 (by decide) rfl rfl ?_
  have FR : ∀ (k : Nat) (i c : Nat), T.2.2.2.1 - i = k → i ≤ T.2.2.2.1 → c = 10 ^ i → Wm G X 8 Q 6 [(0, .ref (gb_ad G 0)), (1, .long (lN S)), (3, .int (nI (x))), (4, .long (lN c)), (6, .int (nI (i)))] [] mM := by
    intro k
    induction k using Nat.strongRecOn with
    | ind k ih_FR =>
      intro i c hk hi hc
      refine w_iload (n := 8) O dX6_fraction_6 rfl rfl ?_
      refine w_aload_n (n := 9) O dX6_fraction_8 rfl rfl rfl ?_
      refine w_getf (n := 12) O 0 dX6_fraction_9 (by omega) hB rfl (by decide) uX6 uf_X6_10 rfl rfl ?_
      refine w_getf (n := 15) O 3 dX6_fraction_12 (by omega) hT.1 rfl (by decide) uX5 uf_X6_94 rfl rfl ?_
      refine w_icmp_geN (n := 18) (tgt := 32) O dX6_fraction_15 (by omega) (by omega) (by decide) rfl (fun c_1 => ?_) (fun c_1 => ?_)
      · skip
        have h104 : 10 ^ i ≤ 10 ^ 4 := Nat.pow_le_pow_right (show 0 < 10 by decide) (by omega)
        have h10p : 0 < 10 ^ i := Nat.pow_pos (by decide)
        have hgp : 0 < Nat.gcd S c := Nat.gcd_pos_of_pos_right S (by omega)
        have hgl : Nat.gcd S c ≤ c := Nat.gcd_le_right S (by omega)
        refine w_lload_n (n := 33) O dX6_fraction_32 rfl rfl rfl ?_
        refine w_lload (n := 35) O dX6_fraction_33 rfl rfl ?_
        refine w_cS (n := 38) (ro := some (.long (lN (Nat.gcd S c)))) (R := fun mM' => mM = mM') (st := []) (st1 := [.long (lN (Nat.gcd S c))]) (As := [.long (lN S), .long (lN c)]) O dX6_fraction_35 ul_X6_276 um_X6_commonDivisor (f_X6_commonDivisor hW (by omega) (by omega) (by omega) ⟨rfl, rfl⟩) rfl rfl rfl (by decide) (Nat.le_of_ble_eq_true rfl) rfl (fun mhM_2 hM_2 => ?_)
        subst hM_2
        refine w_lstore (n := 40) (lv' := [(6, .long (lN (Nat.gcd S c))), (0, .ref (gb_ad G 0)), (1, .long (lN S)), (3, .int (nI (x))), (4, .long (lN c))]) O dX6_fraction_38 (by decide) rfl rfl ?_
        refine w_iload_n (n := 41) O dX6_fraction_40 rfl rfl rfl ?_
        refine w_if_neN (n := 44) (tgt := 48) O dX6_fraction_41 (by omega) (by decide) rfl (fun c_3 => ?_) (fun c_3 => ?_)
        · skip
          refine w_lload (n := 50) O dX6_fraction_48 rfl rfl ?_
          refine w_lload (n := 52) O dX6_fraction_50 rfl rfl ?_
          refine w_ldivK (n := 53) O dX6_fraction_52 (by omega) (by omega) (by omega) rfl ?_
          refine w_lret O dX6_fraction_53 ?_
          have e : fracN S (10 ^ T.2.2.2.1) x = (c / (Nat.gcd S c)) := by unfold fracN; rw [show T.2.2.2.1 = i by omega, ← hc, if_neg c_3]
          rw [e] at hQ
          exact hQ
        · skip
          refine w_lload_n (n := 45) O dX6_fraction_44 rfl rfl rfl ?_
          refine w_goto (tgt := 50) O dX6_fraction_45 (by decide) ?_
          refine w_lload (n := 52) O dX6_fraction_50 rfl rfl ?_
          refine w_ldivK (n := 53) O dX6_fraction_52 (by omega) (by omega) (by omega) rfl ?_
          refine w_lret O dX6_fraction_53 ?_
          have e : fracN S (10 ^ T.2.2.2.1) x = (S / (Nat.gcd S c)) := by unfold fracN; rw [show T.2.2.2.1 = i by omega, ← hc, if_pos c_3]
          rw [e] at hQ
          exact hQ
      · skip
        refine w_lload (n := 20) O dX6_fraction_18 rfl rfl ?_
        refine w_ldc2 (n := 23) O dX6_fraction_20 uc_X6_274 rfl ?_
        refine w_topl (lN 10) (by decide) ?_
        refine w_lmulK (n := 24) O dX6_fraction_23 rfl ?_
        refine w_lstore (n := 26) (lv' := [(4, .long (lN (c * 10))), (0, .ref (gb_ad G 0)), (1, .long (lN S)), (3, .int (nI (x))), (6, .int (nI (i)))]) O dX6_fraction_24 (by decide) rfl rfl ?_
        refine w_iincN (n := 29) (lv' := [(6, .int (nI (i + 1))), (4, .long (lN (c * 10))), (0, .ref (gb_ad G 0)), (1, .long (lN S)), (3, .int (nI (x)))]) O dX6_fraction_26 rfl (by decide) rfl rfl ?_
        refine w_goto (tgt := 6) O dX6_fraction_29 (by decide) ?_
        refine w_lv (lv2 := [(0, .ref (gb_ad G 0)), (1, .long (lN S)), (3, .int (nI (x))), (4, .long (lN (c * 10))), (6, .int (nI (i + 1)))]) [2, 3, 4, 1, 0] rfl ?_
        exact ih_FR _ (by omega) (i + 1) ((c * 10)) rfl (by omega) (by rw [hc, Nat.pow_succ])
  refine w_lv (lv2 := [(0, .ref (gb_ad G 0)), (1, .long (lN S)), (3, .int (nI (x))), (4, .long (lN 1)), (6, .int (nI 0))]) [2, 3, 4, 1, 0] rfl ?_
  exact FR _ 0 1 rfl (Nat.zero_le _) rfl
set_option maxRecDepth 100000 in
set_option maxHeartbeats 4000000 in
theorem f_X6_sumOverLiars {G : gb_G} (hW : gW G) {Q : Option Value → gb_M → Prop} {mM : gb_M} {tn : Nat} (hB : isB G mM tn) {T : Tw} (hT : isT G mM 1 T) (ok : okT T) {pa am : Nat → Nat} {w : Nat} (hM : isM G mM pa am w) (hp : okP pa) {v : Nat} (hv : v ≤ 10) {isW : Bool} (hQ : ∀ M' pa' am' w', isM G M' pa' am' w' → okP pa' → sm mM M' 9 11 → Q (some (.long (lN (lieS T v isW (2 ^ T.2.2.2.1))))) M') : Fn G 6 yX6_sumOverLiars cX6_sumOverLiars 9 (some .long) [.ref (gb_ad G 0), .int (nI (v)), .int (bI (isW))] mM Q := by
  have hN := hW.2.2.1
  refine Fn.of hW.1 [(0, .ref (gb_ad G 0)), (1, .int (nI (v))), (2, .int (bI (isW)))] (by decide) (Nat.le_of_ble_eq_true rfl) rfl ?_
  intro X O
  have hn4 := ok.1
  have hp16 := pow4 hn4
  refine w_lconst (n := 1) O dX6_sumOverLiars_0 (v := lN 0) (by decide) rfl ?_
  refine w_lstore_n (n := 2) (lv' := [(3, .long (lN 0)), (0, .ref (gb_ad G 0)), (1, .int (nI (v))), (2, .int (bI (isW)))]) O dX6_sumOverLiars_1 rfl (by decide) rfl rfl ?_
  refine w_iconst (n := 3) O dX6_sumOverLiars_2 (v := (nI 0)) (by decide) rfl ?_
  refine w_istore (n := 5) (lv' := [(5, .int (nI 0)), (3, .long (lN 0)), (0, .ref (gb_ad G 0)), (1, .int (nI (v))), (2, .int (bI (isW)))]) O dX6_sumOverLiars_3 (by decide) rfl rfl ?_
  have LO : ∀ (k : Nat) (k2 c : Nat) (m1 : gb_M) (pa1 am1 : Nat → Nat) (w1 : Nat), 2 ^ T.2.2.2.1 - k2 = k → k2 ≤ 2 ^ T.2.2.2.1 → c = lieS T v isW k2 → isM G m1 pa1 am1 w1 → okP pa1 → sm mM m1 9 11 → Wm G X 9 Q 5 [(0, .ref (gb_ad G 0)), (1, .int (nI (v))), (2, .int (bI (isW))), (3, .long (lN c)), (5, .int (nI (k2)))] [] m1 := by
    intro k
    induction k using Nat.strongRecOn with
    | ind k ih_LO =>
      intro k2 c m1 pa1 am1 w1 hk hk2 hc hM1 hp1 hs1
      refine w_iload (n := 7) O dX6_sumOverLiars_5 rfl rfl ?_
      refine w_iconst (n := 8) O dX6_sumOverLiars_7 (v := (nI 1)) (by decide) rfl ?_
      refine w_aload_n (n := 9) O dX6_sumOverLiars_8 rfl rfl rfl ?_
      refine w_getf (n := 12) O 0 dX6_sumOverLiars_9 (by omega) ((hs1 (0) (by omega)).trans hB) rfl (by decide) uX6 uf_X6_10 rfl rfl ?_
      refine w_getf (n := 15) O 3 dX6_sumOverLiars_12 (by omega) ((hs1 (1) (by omega)).trans hT.1) rfl (by decide) uX5 uf_X6_94 rfl rfl ?_
      refine w_ishl (n := 16) O dX6_sumOverLiars_15 rfl ?_
      refine w_top (nI (2 ^ T.2.2.2.1)) (by rw [nI_shl (by omega) (by rw [Nat.one_mul]; omega), Nat.one_mul]) ?_
      refine w_icmp_geN (n := 19) (tgt := 168) O dX6_sumOverLiars_16 (by omega) (by omega) (by decide) rfl (fun c_1 => ?_) (fun c_1 => ?_)
      · skip
        refine w_lload_n (n := 169) O dX6_sumOverLiars_168 rfl rfl rfl ?_
        refine w_lret O dX6_sumOverLiars_169 ?_
        rw [show 2 ^ T.2.2.2.1 = k2 by omega, ← hc] at hQ
        exact hQ _ _ _ _ hM1 hp1 hs1
      · skip
        refine w_lconst (n := 20) O dX6_sumOverLiars_19 (v := lN 1) (by decide) rfl ?_
        refine w_lstore (n := 22) (lv' := [(6, .long (lN 1)), (0, .ref (gb_ad G 0)), (1, .int (nI (v))), (2, .int (bI (isW))), (3, .long (lN c)), (5, .int (nI (k2)))]) O dX6_sumOverLiars_20 (by decide) rfl rfl ?_
        refine w_aload_n (n := 23) O dX6_sumOverLiars_22 rfl rfl rfl ?_
        refine w_getf (n := 26) O 2 dX6_sumOverLiars_23 (by omega) ((hs1 (0) (by omega)).trans hB) rfl (by decide) uX6 uf_X6_22 rfl rfl ?_
        refine w_aload_n (n := 27) O dX6_sumOverLiars_26 rfl rfl rfl ?_
        refine w_getf (n := 30) O 0 dX6_sumOverLiars_27 (by omega) ((hs1 (0) (by omega)).trans hB) rfl (by decide) uX6 uf_X6_10 rfl rfl ?_
        refine w_cV (n := 33) (ro := none) (R := fun mM' => isM G mM' (fun k => if k < T.2.2.2.1 then tGives T k else pa1 k) (am1) (w1) ∧ sm m1 mM' 9 11) (st := []) (st1 := []) (As := [.ref (gb_ad G 1)]) (b := 9) O dX6_sumOverLiars_30 ul_X6_169 um_X1_gather (f_X1_gather (T := T) hW ⟨((hs1 (1) (by omega)).trans hT.1), ((hs1 (2) (by omega)).trans hT.2.1), ((hs1 (3) (by omega)).trans hT.2.2.1), ((hs1 (4) (by omega)).trans hT.2.2.2)⟩ (by omega) ok (by omega) ⟨hM1.1, hM1.2.1, hM1.2.2⟩ (fun M' h1 h2 => ⟨rfl, h1, h2⟩)) rfl (by omega) hM1.1 rfl rfl rfl rfl (by decide) (Nat.le_of_ble_eq_true rfl) rfl (fun mhM_2 hM_2 => ?_)
        obtain ⟨hMhM_2, hshM_2⟩ := hM_2
        refine w_iconst (n := 34) O dX6_sumOverLiars_33 (v := (nI 0)) (by decide) rfl ?_
        refine w_istore (n := 36) (lv' := [(8, .int (nI 0)), (6, .long (lN 1)), (0, .ref (gb_ad G 0)), (1, .int (nI (v))), (2, .int (bI (isW))), (3, .long (lN c)), (5, .int (nI (k2)))]) O dX6_sumOverLiars_34 (by decide) rfl rfl ?_
        have LJ : ∀ (k : Nat) (i y : Nat) (m2 : gb_M) (pa2 am2 : Nat → Nat) (w2 : Nat), T.2.2.2.1 - i = k → i ≤ T.2.2.2.1 → y = sProd (lieW v k2) i → (∀ g, g < T.2.2.2.1 → pa2 g = if g < i then lieP T k2 g else tGives T g) → isM G m2 pa2 am2 w2 → okP pa2 → sm mM m2 9 11 → Wm G X 9 Q 36 [(0, .ref (gb_ad G 0)), (1, .int (nI (v))), (2, .int (bI (isW))), (3, .long (lN c)), (5, .int (nI (k2))), (6, .long (lN y)), (8, .int (nI (i)))] [] m2 := by
          intro k
          induction k using Nat.strongRecOn with
          | ind k ih_LJ =>
            intro i y m2 pa2 am2 w2 hk hi hy hpa hM2 hp2 hs2
            refine w_iload (n := 38) O dX6_sumOverLiars_36 rfl rfl ?_
            refine w_aload_n (n := 39) O dX6_sumOverLiars_38 rfl rfl rfl ?_
            refine w_getf (n := 42) O 0 dX6_sumOverLiars_39 (by omega) ((hs2 (0) (by omega)).trans hB) rfl (by decide) uX6 uf_X6_10 rfl rfl ?_
            refine w_getf (n := 45) O 3 dX6_sumOverLiars_42 (by omega) ((hs2 (1) (by omega)).trans hT.1) rfl (by decide) uX5 uf_X6_94 rfl rfl ?_
            refine w_icmp_geN (n := 48) (tgt := 111) O dX6_sumOverLiars_45 (by omega) (by omega) (by decide) rfl (fun c_3 => ?_) (fun c_3 => ?_)
            · skip
              have hag2 : ∀ g, g < T.2.2.2.1 → pa2 g = lieP T k2 g := fun g hg => by rw [hpa g hg, if_pos (by omega)]
              have emw : mWt T pa2 = mWt T (lieP T k2) := mWt_cong hag2
              have emt : pTrue T (mAm T pa2) (mWt T pa2) = pTrue T (mAm T (lieP T k2)) (mWt T (lieP T k2)) := by rw [mAm_cong hag2, mWt_cong hag2]
              have hwy : y = sProd (lieW v k2) T.2.2.2.1 := by rw [hy, show i = T.2.2.2.1 by omega]
              have hwb := mWt_le ok hp2 (Nat.le_refl 3)
              have hwb2 : mWt T pa2 ≤ 600 := hwb
              refine w_aload_n (n := 112) O dX6_sumOverLiars_111 rfl rfl rfl ?_
              refine w_getf (n := 115) O 2 dX6_sumOverLiars_112 (by omega) ((hs2 (0) (by omega)).trans hB) rfl (by decide) uX6 uf_X6_22 rfl rfl ?_
              refine w_aload_n (n := 116) O dX6_sumOverLiars_115 rfl rfl rfl ?_
              refine w_getf (n := 119) O 0 dX6_sumOverLiars_116 (by omega) ((hs2 (0) (by omega)).trans hB) rfl (by decide) uX6 uf_X6_10 rfl rfl ?_
              refine w_cV (n := 122) (ro := none) (R := fun mM' => isM G mM' (pa2) (mAm T pa2) (mWt T pa2) ∧ sm m2 mM' 9 11) (st := []) (st1 := []) (As := [.ref (gb_ad G 1)]) (b := 9) O dX6_sumOverLiars_119 ul_X6_172 um_X1_pour (f_X1_pour (T := T) hW ⟨((hs2 (1) (by omega)).trans hT.1), ((hs2 (2) (by omega)).trans hT.2.1), ((hs2 (3) (by omega)).trans hT.2.2.1), ((hs2 (4) (by omega)).trans hT.2.2.2)⟩ (by omega) ok (by omega) ⟨hM2.1, hM2.2.1, hM2.2.2⟩ hp2 (fun M' h1 h2 => ⟨rfl, h1, h2⟩)) rfl (by omega) hM2.1 rfl rfl rfl rfl (by decide) (Nat.le_of_ble_eq_true rfl) rfl (fun mhM_4 hM_4 => ?_)
              obtain ⟨hMhM_4, hshM_4⟩ := hM_4
              refine w_iload_n (n := 123) O dX6_sumOverLiars_122 rfl rfl rfl ?_
              refine w_if_eqB (n := 126) (tgt := 143) O dX6_sumOverLiars_123 (by decide) rfl (fun c_5 => ?_) (fun c_5 => ?_)
              · skip
                refine w_aload_n (n := 144) O dX6_sumOverLiars_143 rfl rfl rfl ?_
                refine w_getf (n := 147) O 2 dX6_sumOverLiars_144 (by omega) ((hshM_4 (0) (by omega)).trans ((hs2 (0) (by omega)).trans hB)) rfl (by decide) uX6 uf_X6_22 rfl rfl ?_
                refine w_aload_n (n := 148) O dX6_sumOverLiars_147 rfl rfl rfl ?_
                refine w_getf (n := 151) O 0 dX6_sumOverLiars_148 (by omega) ((hshM_4 (0) (by omega)).trans ((hs2 (0) (by omega)).trans hB)) rfl (by decide) uX6 uf_X6_10 rfl rfl ?_
                refine w_cV (n := 154) (ro := some (.int (bI (pTrue T (mAm T pa2) (mWt T pa2))))) (R := fun mM' => mhM_4 = mM') (st := []) (st1 := [.int (bI (pTrue T (mAm T pa2) (mWt T pa2)))]) (As := [.ref (gb_ad G 1)]) (b := 9) O dX6_sumOverLiars_151 ul_X6_146 um_X1_isTrue (f_X1_isTrue (T := T) hW ⟨((hshM_4 (1) (by omega)).trans ((hs2 (1) (by omega)).trans hT.1)), ((hshM_4 (2) (by omega)).trans ((hs2 (2) (by omega)).trans hT.2.1)), ((hshM_4 (3) (by omega)).trans ((hs2 (3) (by omega)).trans hT.2.2.1)), ((hshM_4 (4) (by omega)).trans ((hs2 (4) (by omega)).trans hT.2.2.2))⟩ (by omega) ok (by omega) ⟨hMhM_4.1, hMhM_4.2.1, hMhM_4.2.2⟩ (fun m _ => mAm_le ok hp2 m) (mWt_le ok hp2 (Nat.le_refl 3)) ⟨rfl, rfl⟩) rfl (by omega) hMhM_4.1 rfl rfl rfl rfl (by decide) (Nat.le_of_ble_eq_true rfl) rfl (fun mhM_6 hM_6 => ?_)
                subst hM_6
                refine w_if_eqB (n := 157) (tgt := 162) O dX6_sumOverLiars_154 (by decide) rfl (fun c_7 => ?_) (fun c_7 => ?_)
                · skip
                  refine w_iincN (n := 165) (lv' := [(5, .int (nI (k2 + 1))), (0, .ref (gb_ad G 0)), (1, .int (nI (v))), (2, .int (bI (isW))), (3, .long (lN c)), (6, .long (lN y)), (8, .int (nI (i)))]) O dX6_sumOverLiars_162 rfl (by decide) rfl rfl ?_
                  refine w_goto (tgt := 5) O dX6_sumOverLiars_165 (by decide) ?_
                  refine w_lv (lv2 := [(0, .ref (gb_ad G 0)), (1, .int (nI (v))), (2, .int (bI (isW))), (3, .long (lN c)), (5, .int (nI (k2 + 1)))]) [1, 2, 3, 4, 0] rfl ?_
                  exact ih_LO _ (by omega) (k2 + 1) (c) _ _ _ _ rfl (by omega) (by unfold lieS; simp only [sSum]; rw [show sSum (fun k => sProd (lieW v k) T.2.2.2.1 * lieV T isW k) k2 = c from hc.symm]; unfold lieV; rw [if_neg (by rw [c_5]; decide), if_neg (by rw [← emt, c_7]; decide)]; rfl) ⟨hMhM_4.1, hMhM_4.2.1, hMhM_4.2.2⟩ hp2 ((sm.rf.tr (hs2.mono (by omega) (by omega))).tr (hshM_4.mono (by omega) (by omega)))
                · skip
                  refine w_lload_n (n := 158) O dX6_sumOverLiars_157 rfl rfl rfl ?_
                  refine w_lload (n := 160) O dX6_sumOverLiars_158 rfl rfl ?_
                  refine w_laddK (n := 161) O dX6_sumOverLiars_160 rfl ?_
                  refine w_lstore_n (n := 162) (lv' := [(3, .long (lN (c + y))), (0, .ref (gb_ad G 0)), (1, .int (nI (v))), (2, .int (bI (isW))), (5, .int (nI (k2))), (6, .long (lN y)), (8, .int (nI (i)))]) O dX6_sumOverLiars_161 rfl (by decide) rfl rfl ?_
                  refine w_iincN (n := 165) (lv' := [(5, .int (nI (k2 + 1))), (3, .long (lN (c + y))), (0, .ref (gb_ad G 0)), (1, .int (nI (v))), (2, .int (bI (isW))), (6, .long (lN y)), (8, .int (nI (i)))]) O dX6_sumOverLiars_162 rfl (by decide) rfl rfl ?_
                  refine w_goto (tgt := 5) O dX6_sumOverLiars_165 (by decide) ?_
                  refine w_lv (lv2 := [(0, .ref (gb_ad G 0)), (1, .int (nI (v))), (2, .int (bI (isW))), (3, .long (lN (c + y))), (5, .int (nI (k2 + 1)))]) [2, 3, 4, 1, 0] rfl ?_
                  exact ih_LO _ (by omega) (k2 + 1) ((c + y)) _ _ _ _ rfl (by omega) (by unfold lieS; simp only [sSum]; rw [show sSum (fun k => sProd (lieW v k) T.2.2.2.1 * lieV T isW k) k2 = c from hc.symm]; unfold lieV; rw [if_neg (by rw [c_5]; decide), if_pos (emt.symm.trans c_7), Nat.mul_one, hwy]) ⟨hMhM_4.1, hMhM_4.2.1, hMhM_4.2.2⟩ hp2 ((sm.rf.tr (hs2.mono (by omega) (by omega))).tr (hshM_4.mono (by omega) (by omega)))
              · skip
                refine w_lload_n (n := 127) O dX6_sumOverLiars_126 rfl rfl rfl ?_
                refine w_lload (n := 129) O dX6_sumOverLiars_127 rfl rfl ?_
                refine w_aload_n (n := 130) O dX6_sumOverLiars_129 rfl rfl rfl ?_
                refine w_getf (n := 133) O 2 dX6_sumOverLiars_130 (by omega) ((hshM_4 (0) (by omega)).trans ((hs2 (0) (by omega)).trans hB)) rfl (by decide) uX6 uf_X6_22 rfl rfl ?_
                refine w_getf (n := 136) O 2 dX6_sumOverLiars_133 (by omega) hMhM_4.1 rfl (by decide) uX1 uf_X6_136 rfl rfl ?_
                refine w_i2lK (n := 137) O dX6_sumOverLiars_136 (by omega) rfl ?_
                refine w_lmulK (n := 138) O dX6_sumOverLiars_137 rfl ?_
                refine w_laddK (n := 139) O dX6_sumOverLiars_138 rfl ?_
                refine w_lstore_n (n := 140) (lv' := [(3, .long (lN (c + (y * (mWt T pa2))))), (0, .ref (gb_ad G 0)), (1, .int (nI (v))), (2, .int (bI (isW))), (5, .int (nI (k2))), (6, .long (lN y)), (8, .int (nI (i)))]) O dX6_sumOverLiars_139 rfl (by decide) rfl rfl ?_
                refine w_goto (tgt := 162) O dX6_sumOverLiars_140 (by decide) ?_
                refine w_iincN (n := 165) (lv' := [(5, .int (nI (k2 + 1))), (3, .long (lN (c + (y * (mWt T pa2))))), (0, .ref (gb_ad G 0)), (1, .int (nI (v))), (2, .int (bI (isW))), (6, .long (lN y)), (8, .int (nI (i)))]) O dX6_sumOverLiars_162 rfl (by decide) rfl rfl ?_
                refine w_goto (tgt := 5) O dX6_sumOverLiars_165 (by decide) ?_
                refine w_lv (lv2 := [(0, .ref (gb_ad G 0)), (1, .int (nI (v))), (2, .int (bI (isW))), (3, .long (lN (c + (y * (mWt T pa2))))), (5, .int (nI (k2 + 1)))]) [2, 3, 4, 1, 0] rfl ?_
                exact ih_LO _ (by omega) (k2 + 1) ((c + (y * (mWt T pa2)))) _ _ _ _ rfl (by omega) (by unfold lieS; simp only [sSum]; rw [show sSum (fun k => sProd (lieW v k) T.2.2.2.1 * lieV T isW k) k2 = c from hc.symm]; unfold lieV; rw [if_pos c_5, hwy, emw]) ⟨hMhM_4.1, hMhM_4.2.1, hMhM_4.2.2⟩ hp2 ((sm.rf.tr (hs2.mono (by omega) (by omega))).tr (hshM_4.mono (by omega) (by omega)))
            · skip
              refine w_lload (n := 50) O dX6_sumOverLiars_48 rfl rfl ?_
              refine w_iload (n := 52) O dX6_sumOverLiars_50 rfl rfl ?_
              refine w_iload (n := 54) O dX6_sumOverLiars_52 rfl rfl ?_
              refine w_cS (n := 57) (ro := some (.int (bI (hasB (k2) (i))))) (R := fun mM' => m2 = mM') (st := [.long (lN y)]) (st1 := [.int (bI (hasB (k2) (i))), .long (lN y)]) (As := [.int (nI (k2)), .int (nI (i))]) O dX6_sumOverLiars_54 ul_X6_184 um_X6_has (f_X6_has hW (by omega) (by omega) ⟨rfl, rfl⟩) rfl rfl rfl (by decide) (Nat.le_of_ble_eq_true rfl) rfl (fun mhM_8 hM_8 => ?_)
              subst hM_8
              refine w_if_eqB (n := 60) (tgt := 65) O dX6_sumOverLiars_57 (by decide) rfl (fun c_9 => ?_) (fun c_9 => ?_)
              · skip
                refine w_bipush (n := 67) O dX6_sumOverLiars_65 (v := (nI 10)) (by decide) rfl ?_
                refine w_iload_n (n := 68) O dX6_sumOverLiars_67 rfl rfl rfl ?_
                refine w_isubN (n := 69) O dX6_sumOverLiars_68 (by omega) rfl ?_
                refine w_i2lK (n := 70) O dX6_sumOverLiars_69 (by omega) rfl ?_
                refine w_lmulK (n := 71) O dX6_sumOverLiars_70 rfl ?_
                refine w_lstore (n := 73) (lv' := [(6, .long (lN (y * (10 - v)))), (0, .ref (gb_ad G 0)), (1, .int (nI (v))), (2, .int (bI (isW))), (3, .long (lN c)), (5, .int (nI (k2))), (8, .int (nI (i)))]) O dX6_sumOverLiars_71 (by decide) rfl rfl ?_
                have hpi := hp2 i (by omega)
                refine w_iload (n := 75) O dX6_sumOverLiars_73 rfl rfl ?_
                refine w_iload (n := 77) O dX6_sumOverLiars_75 rfl rfl ?_
                refine w_cS (n := 80) (ro := some (.int (bI (hasB (k2) (i))))) (R := fun mM' => m2 = mM') (st := []) (st1 := [.int (bI (hasB (k2) (i)))]) (As := [.int (nI (k2)), .int (nI (i))]) O dX6_sumOverLiars_77 ul_X6_184 um_X6_has (f_X6_has hW (by omega) (by omega) ⟨rfl, rfl⟩) rfl rfl rfl (by decide) (Nat.le_of_ble_eq_true rfl) rfl (fun mhM_10 hM_10 => ?_)
                subst hM_10
                refine w_if_eqB (n := 83) (tgt := 105) O dX6_sumOverLiars_80 (by decide) rfl (fun c_11 => ?_) (fun c_11 => absurd (c_9.symm.trans c_11) (by decide))
                refine w_iincN (n := 108) (lv' := [(8, .int (nI (i + 1))), (6, .long (lN (y * (10 - v)))), (0, .ref (gb_ad G 0)), (1, .int (nI (v))), (2, .int (bI (isW))), (3, .long (lN c)), (5, .int (nI (k2)))]) O dX6_sumOverLiars_105 rfl (by decide) rfl rfl ?_
                refine w_goto (tgt := 36) O dX6_sumOverLiars_108 (by decide) ?_
                refine w_lv (lv2 := [(0, .ref (gb_ad G 0)), (1, .int (nI (v))), (2, .int (bI (isW))), (3, .long (lN c)), (5, .int (nI (k2))), (6, .long (lN (y * (10 - v)))), (8, .int (nI (i + 1)))]) [2, 3, 4, 5, 6, 1, 0] rfl ?_
                exact ih_LJ _ (by omega) (i + 1) ((y * (10 - v))) _ _ _ _ rfl (by omega) (by simp only [sProd]; rw [← hy]; unfold lieW; rw [if_neg (by rw [c_9]; decide)]) (fun g hg => by rw [hpa g hg]; by_cases e : g = i; (rw [e, if_neg (Nat.lt_irrefl i), if_pos (by omega)]; exact (if_neg (by rw [c_9]; decide)).symm); (by_cases e2 : g < i; (rw [if_pos e2, if_pos (by omega)]); (rw [if_neg e2, if_neg (by omega)]))) ⟨hM2.1, hM2.2.1, hM2.2.2⟩ hp2 (sm.rf.tr (hs2.mono (by omega) (by omega)))
              · skip
                refine w_iload_n (n := 61) O dX6_sumOverLiars_60 rfl rfl rfl ?_
                refine w_i2lK (n := 62) O dX6_sumOverLiars_61 (by omega) rfl ?_
                refine w_goto (tgt := 70) O dX6_sumOverLiars_62 (by decide) ?_
                refine w_lmulK (n := 71) O dX6_sumOverLiars_70 rfl ?_
                refine w_lstore (n := 73) (lv' := [(6, .long (lN (y * v))), (0, .ref (gb_ad G 0)), (1, .int (nI (v))), (2, .int (bI (isW))), (3, .long (lN c)), (5, .int (nI (k2))), (8, .int (nI (i)))]) O dX6_sumOverLiars_71 (by decide) rfl rfl ?_
                have hpi := hp2 i (by omega)
                refine w_iload (n := 75) O dX6_sumOverLiars_73 rfl rfl ?_
                refine w_iload (n := 77) O dX6_sumOverLiars_75 rfl rfl ?_
                refine w_cS (n := 80) (ro := some (.int (bI (hasB (k2) (i))))) (R := fun mM' => m2 = mM') (st := []) (st1 := [.int (bI (hasB (k2) (i)))]) (As := [.int (nI (k2)), .int (nI (i))]) O dX6_sumOverLiars_77 ul_X6_184 um_X6_has (f_X6_has hW (by omega) (by omega) ⟨rfl, rfl⟩) rfl rfl rfl (by decide) (Nat.le_of_ble_eq_true rfl) rfl (fun mhM_12 hM_12 => ?_)
                subst hM_12
                refine w_if_eqB (n := 83) (tgt := 105) O dX6_sumOverLiars_80 (by decide) rfl (fun c_13 => absurd (c_9.symm.trans c_13) (by decide)) (fun c_13 => ?_)
                refine w_aload_n (n := 84) O dX6_sumOverLiars_83 rfl rfl rfl ?_
                refine w_getf (n := 87) O 2 dX6_sumOverLiars_84 (by omega) ((hs2 (0) (by omega)).trans hB) rfl (by decide) uX6 uf_X6_22 rfl rfl ?_
                refine w_getf (n := 90) O 0 dX6_sumOverLiars_87 (by omega) hM2.1 rfl (by decide) uX1 uf_X6_153 rfl rfl ?_
                refine w_iload (n := 92) O dX6_sumOverLiars_90 rfl rfl ?_
                refine w_aload_n (n := 93) O dX6_sumOverLiars_92 rfl rfl rfl ?_
                refine w_getf (n := 96) O 2 dX6_sumOverLiars_93 (by omega) ((hs2 (0) (by omega)).trans hB) rfl (by decide) uX6 uf_X6_22 rfl rfl ?_
                refine w_getf (n := 99) O 0 dX6_sumOverLiars_96 (by omega) hM2.1 rfl (by decide) uX1 uf_X6_153 rfl rfl ?_
                refine w_iload (n := 101) O dX6_sumOverLiars_99 rfl rfl ?_
                refine w_ialdN (n := 102) O dX6_sumOverLiars_101 hW.2.1 (by omega) hM2.2.1 (by omega) (by decide) rfl ?_
                refine w_iconst (n := 103) O dX6_sumOverLiars_102 (v := (nI 2)) (by decide) rfl ?_
                refine w_idivN (n := 104) O dX6_sumOverLiars_103 (by omega) (by omega) (by omega) rfl ?_
                refine w_iastN (n := 105) O dX6_sumOverLiars_104 hW.2.1 (by omega) hM2.2.1 (by omega) (by decide) rfl ?_
                refine w_iincN (n := 108) (lv' := [(8, .int (nI (i + 1))), (6, .long (lN (y * v))), (0, .ref (gb_ad G 0)), (1, .int (nI (v))), (2, .int (bI (isW))), (3, .long (lN c)), (5, .int (nI (k2)))]) O dX6_sumOverLiars_105 rfl (by decide) rfl rfl ?_
                refine w_goto (tgt := 36) O dX6_sumOverLiars_108 (by decide) ?_
                refine w_lv (lv2 := [(0, .ref (gb_ad G 0)), (1, .int (nI (v))), (2, .int (bI (isW))), (3, .long (lN c)), (5, .int (nI (k2))), (6, .long (lN (y * v))), (8, .int (nI (i + 1)))]) [2, 3, 4, 5, 6, 1, 0] rfl ?_
                exact ih_LJ _ (by omega) (i + 1) ((y * v)) _ _ _ _ rfl (by omega) (by simp only [sProd]; rw [← hy]; unfold lieW; rw [if_pos c_9]) (fun g hg => by by_cases e : g = i; (rw [e, upN_self, if_pos (by omega), hpa i (by omega), if_neg (Nat.lt_irrefl i)]; exact (if_pos c_9).symm); (rw [upN_ne _ _ e, hpa g hg]; by_cases e2 : g < i; (rw [if_pos e2, if_pos (by omega)]); (rw [if_neg e2, if_neg (by omega)]))) ⟨((va_up_ne _ _ (by decide)).trans hM2.1), (va_up_self _ _ _), ((va_up_ne _ _ (by decide)).trans hM2.2.2)⟩ (okP_up hp2 (by omega)) ((sm.rf.tr (hs2.mono (by omega) (by omega))).up (by omega) (by omega))
        refine w_lv (lv2 := [(0, .ref (gb_ad G 0)), (1, .int (nI (v))), (2, .int (bI (isW))), (3, .long (lN c)), (5, .int (nI (k2))), (6, .long (lN 1)), (8, .int (nI 0))]) [2, 3, 4, 5, 6, 1, 0] rfl ?_
        exact LJ _ 0 1 _ _ _ _ rfl (Nat.zero_le _) rfl (fun g hg => by rw [if_neg (Nat.not_lt_zero g)]; exact if_pos hg) ⟨hMhM_2.1, hMhM_2.2.1, hMhM_2.2.2⟩ (okP_gp ok hp1) ((sm.rf.tr (hs1.mono (by omega) (by omega))).tr (hshM_2.mono (by omega) (by omega)))
  refine w_lv (lv2 := [(0, .ref (gb_ad G 0)), (1, .int (nI (v))), (2, .int (bI (isW))), (3, .long (lN 0)), (5, .int (nI 0))]) [2, 3, 4, 1, 0] rfl ?_
  exact LO _ 0 0 mM pa am w rfl (Nat.zero_le _) rfl hM hp sm.rf
set_option maxRecDepth 100000 in
set_option maxHeartbeats 4000000 in
theorem f_X6_mean {G : gb_G} (hW : gW G) {Q : Option Value → gb_M → Prop} {mM : gb_M} {T : Tw} {im : Nat → Tw} {kp : Nat → Bool} {bs : Nat → Nat} {ln fa : Nat} {st sf : Nat → Nat} {sn : Nat} {sh : Sh} {sc : Nat → Nat → Int32} {tn : Nat} (hC : isCW G mM T im kp bs ln fa st sf sn sh sc tn) {v x : Int32}  (hQ : ∀ M', isCW G M' T im kp bs ln fa st sf sn sh sc tn → sm mM M' 0 48 → Q (some (.long (a_lies T true v x))) M') : Fn G 7 yX6_mean cX6_mean 3 (some .long) [.ref (gb_ad G 0), .int (v), .int (x)] mM Q := by
  obtain ⟨hB, hT, hok, hU, hMx, hP, hS, hG, hI, hK, hH⟩ := hC
  have ok := hok.1
  have hn4 := ok.1
  have hst9 := hok.2.1
  have hln := hok.2.2.2.1
  have hsn6 := hok.2.2.2.2.2.2.1
  obtain ⟨pa, am, w, hM, hp⟩ := hMx
  have hN := hW.2.2.1
  refine Fn.of hW.1 [(0, .ref (gb_ad G 0)), (1, .int (v)), (2, .int (x))] (by decide) (Nat.le_of_ble_eq_true rfl) rfl ?_
  intro X O
  refine w_iload_n (n := 1) O dX6_mean_0 rfl rfl rfl ?_
  refine w_iconst (n := 2) O dX6_mean_1 (v := (nI 0)) (by decide) rfl ?_
  refine w_bipush (n := 4) O dX6_mean_2 (v := (nI 10)) (by decide) rfl ?_
  refine w_cS (n := 7) (ro := some (.int (bI (wIn (v) (nI (0)) (nI (10)))))) (R := fun mM' => mM = mM') (st := []) (st1 := [.int (bI (wIn (v) (nI (0)) (nI (10))))]) (As := [.int (v), .int (nI 0), .int (nI 10)]) O dX6_mean_4 ul_X6_66 um_X6_within (f_X6_within hW ⟨rfl, rfl⟩) rfl rfl rfl (by decide) (Nat.le_of_ble_eq_true rfl) rfl (fun mhM_1 hM_1 => ?_)
  subst hM_1
  refine w_if_eqB (n := 10) (tgt := 19) O dX6_mean_7 (by decide) rfl (fun c_2 => ?_) (fun c_2 => ?_)
  · skip
    refine w_ldc2 (n := 22) O dX6_mean_19 uc_X6_193 rfl ?_
    refine w_lret O dX6_mean_22 ?_
    have e0 : a_lies T true v x = -1 := by unfold a_lies liesOk; rw [c_2]; rfl
    rw [e0] at hQ
    try dsimp only at hQ
    exact hQ _ ⟨hB, ⟨hT.1, hT.2.1, hT.2.2.1, hT.2.2.2⟩, hok, hU, ⟨_, _, _, ⟨hM.1, hM.2.1, hM.2.2⟩, hp⟩, hP, hS, hG, hI, hK, hH⟩ sm.rf
  · skip
    have hr_j := c_2
    obtain ⟨j, ja, jb, rfl⟩ := wIn_t (by omega) c_2 (by omega)
    have cl_j : (nI j).toNatClampNeg = j := nI_clamp (by omega)
    refine w_iload_n (n := 11) O dX6_mean_10 rfl rfl rfl ?_
    refine w_iconst (n := 12) O dX6_mean_11 (v := (nI 0)) (by decide) rfl ?_
    refine w_iconst (n := 13) O dX6_mean_12 (v := (nI 1)) (by decide) rfl ?_
    refine w_cS (n := 16) (ro := some (.int (bI (wIn (x) (nI (0)) (nI (1)))))) (R := fun mM' => mM = mM') (st := []) (st1 := [.int (bI (wIn (x) (nI (0)) (nI (1))))]) (As := [.int (x), .int (nI 0), .int (nI 1)]) O dX6_mean_13 ul_X6_66 um_X6_within (f_X6_within hW ⟨rfl, rfl⟩) rfl rfl rfl (by decide) (Nat.le_of_ble_eq_true rfl) rfl (fun mhM_3 hM_3 => ?_)
    subst hM_3
    refine w_if_neB (n := 19) (tgt := 23) O dX6_mean_16 (by decide) rfl (fun c_4 => ?_) (fun c_4 => ?_)
    · skip
      have hr_i := c_4
      obtain ⟨i, ia, ib, rfl⟩ := wIn_t (by omega) c_4 (by omega)
      have cl_i : (nI i).toNatClampNeg = i := nI_clamp (by omega)
      refine w_aload_n (n := 24) O dX6_mean_23 rfl rfl rfl ?_
      refine w_aload_n (n := 25) O dX6_mean_24 rfl rfl rfl ?_
      refine w_iload_n (n := 26) O dX6_mean_25 rfl rfl rfl ?_
      refine w_iconst (n := 27) O dX6_mean_26 (v := (nI 1)) (by decide) rfl ?_
      refine w_top (bI true) rfl ?_
      refine w_cV (n := 30) (ro := some (.long (lN (lieS T j true (2 ^ T.2.2.2.1))))) (R := fun mM' => ∃ pa' am' w', isM G mM' pa' am' w' ∧ okP pa' ∧ sm mM mM' 9 11) (st := [.ref (gb_ad G 0)]) (st1 := [.long (lN (lieS T j true (2 ^ T.2.2.2.1))), .ref (gb_ad G 0)]) (As := [.int (nI (j)), .int (bI (true))]) (b := 0) O dX6_mean_27 ul_X6_195 um_X6_sumOverLiars (f_X6_sumOverLiars (T := T) hW hB ⟨hT.1, hT.2.1, hT.2.2.1, hT.2.2.2⟩ ok ⟨hM.1, hM.2.1, hM.2.2⟩ hp (by omega) (fun M' a b c h1 h2 h3 => ⟨rfl, a, b, c, h1, h2, h3⟩)) rfl (by omega) hB rfl rfl rfl rfl (by decide) (Nat.le_of_ble_eq_true rfl) rfl (fun mhM_5 hM_5 => ?_)
      obtain ⟨pa3, am3, w3, hM3, hp3, hs3⟩ := hM_5
      refine w_iload_n (n := 31) O dX6_mean_30 rfl rfl rfl ?_
      have hlb := lieS_le ok (v := j) (by omega) true (m := 2 ^ T.2.2.2.1) (pow4 hn4)
      refine w_cV (n := 34) (ro := some (.long (lN (fracN (lieS T j true (2 ^ T.2.2.2.1)) (10 ^ T.2.2.2.1) i)))) (R := fun mM' => mhM_5 = mM') (st := []) (st1 := [.long (lN (fracN (lieS T j true (2 ^ T.2.2.2.1)) (10 ^ T.2.2.2.1) i))]) (As := [.long (lN (lieS T j true (2 ^ T.2.2.2.1))), .int (nI (i))]) (b := 0) O dX6_mean_31 ul_X6_199 um_X6_fraction (f_X6_fraction (T := T) hW ((hs3 (0) (by omega)).trans hB) ⟨((hs3 (1) (by omega)).trans hT.1), ((hs3 (2) (by omega)).trans hT.2.1), ((hs3 (3) (by omega)).trans hT.2.2.1), ((hs3 (4) (by omega)).trans hT.2.2.2)⟩ ok (by omega) (by omega) ⟨rfl, rfl⟩) rfl (by omega) ((hs3 (0) (by omega)).trans hB) rfl rfl rfl rfl (by decide) (Nat.le_of_ble_eq_true rfl) rfl (fun mhM_6 hM_6 => ?_)
      subst hM_6
      refine w_lret O dX6_mean_34 ?_
      have e0 : a_lies T true (nI j) (nI i) = lN (fracN (lieS T j true (2 ^ T.2.2.2.1)) (10 ^ T.2.2.2.1) i) := by unfold a_lies liesOk; rw [hr_j, hr_i, cl_j, cl_i]; rfl
      rw [e0] at hQ
      try dsimp only at hQ
      exact hQ _ ⟨((hs3 (0) (by omega)).trans hB), ⟨((hs3 (1) (by omega)).trans hT.1), ((hs3 (2) (by omega)).trans hT.2.1), ((hs3 (3) (by omega)).trans hT.2.2.1), ((hs3 (4) (by omega)).trans hT.2.2.2)⟩, hok, (hU.kp (kp_sm hs3 (by omega))), ⟨_, _, _, ⟨hM3.1, hM3.2.1, hM3.2.2⟩, hp3⟩, (hP.kp (kp_sm hs3 (by omega))), (hS.kp (kp_sm hs3 (by omega))), (hG.kp (kp_sm hs3 (by omega))), (hI.kp (kp_sm hs3 (by omega))), ((hs3 (39) (by omega)).trans hK), (hH.kp (kp_sm hs3 (by omega)))⟩ (sm.rf.tr (hs3.mono (by omega) (by omega)))
    · skip
      refine w_ldc2 (n := 22) O dX6_mean_19 uc_X6_193 rfl ?_
      refine w_lret O dX6_mean_22 ?_
      have e0 : a_lies T true (nI j) x = -1 := by unfold a_lies liesOk; rw [c_4, Bool.and_false]; rfl
      rw [e0] at hQ
      try dsimp only at hQ
      exact hQ _ ⟨hB, ⟨hT.1, hT.2.1, hT.2.2.1, hT.2.2.2⟩, hok, hU, ⟨_, _, _, ⟨hM.1, hM.2.1, hM.2.2⟩, hp⟩, hP, hS, hG, hI, hK, hH⟩ sm.rf
set_option maxRecDepth 100000 in
set_option maxHeartbeats 4000000 in
theorem f_X6_luck {G : gb_G} (hW : gW G) {Q : Option Value → gb_M → Prop} {mM : gb_M} {T : Tw} {im : Nat → Tw} {kp : Nat → Bool} {bs : Nat → Nat} {ln fa : Nat} {st sf : Nat → Nat} {sn : Nat} {sh : Sh} {sc : Nat → Nat → Int32} {tn : Nat} (hC : isCW G mM T im kp bs ln fa st sf sn sh sc tn) {v x : Int32}  (hQ : ∀ M', isCW G M' T im kp bs ln fa st sf sn sh sc tn → sm mM M' 0 48 → Q (some (.long (a_lies T false v x))) M') : Fn G 7 yX6_luck cX6_luck 3 (some .long) [.ref (gb_ad G 0), .int (v), .int (x)] mM Q := by
  obtain ⟨hB, hT, hok, hU, hMx, hP, hS, hG, hI, hK, hH⟩ := hC
  have ok := hok.1
  have hn4 := ok.1
  have hst9 := hok.2.1
  have hln := hok.2.2.2.1
  have hsn6 := hok.2.2.2.2.2.2.1
  obtain ⟨pa, am, w, hM, hp⟩ := hMx
  have hN := hW.2.2.1
  refine Fn.of hW.1 [(0, .ref (gb_ad G 0)), (1, .int (v)), (2, .int (x))] (by decide) (Nat.le_of_ble_eq_true rfl) rfl ?_
  intro X O
  refine w_iload_n (n := 1) O dX6_luck_0 rfl rfl rfl ?_
  refine w_iconst (n := 2) O dX6_luck_1 (v := (nI 0)) (by decide) rfl ?_
  refine w_bipush (n := 4) O dX6_luck_2 (v := (nI 10)) (by decide) rfl ?_
  refine w_cS (n := 7) (ro := some (.int (bI (wIn (v) (nI (0)) (nI (10)))))) (R := fun mM' => mM = mM') (st := []) (st1 := [.int (bI (wIn (v) (nI (0)) (nI (10))))]) (As := [.int (v), .int (nI 0), .int (nI 10)]) O dX6_luck_4 ul_X6_66 um_X6_within (f_X6_within hW ⟨rfl, rfl⟩) rfl rfl rfl (by decide) (Nat.le_of_ble_eq_true rfl) rfl (fun mhM_1 hM_1 => ?_)
  subst hM_1
  refine w_if_eqB (n := 10) (tgt := 19) O dX6_luck_7 (by decide) rfl (fun c_2 => ?_) (fun c_2 => ?_)
  · skip
    refine w_ldc2 (n := 22) O dX6_luck_19 uc_X6_193 rfl ?_
    refine w_lret O dX6_luck_22 ?_
    have e0 : a_lies T false v x = -1 := by unfold a_lies liesOk; rw [c_2]; rfl
    rw [e0] at hQ
    try dsimp only at hQ
    exact hQ _ ⟨hB, ⟨hT.1, hT.2.1, hT.2.2.1, hT.2.2.2⟩, hok, hU, ⟨_, _, _, ⟨hM.1, hM.2.1, hM.2.2⟩, hp⟩, hP, hS, hG, hI, hK, hH⟩ sm.rf
  · skip
    have hr_j := c_2
    obtain ⟨j, ja, jb, rfl⟩ := wIn_t (by omega) c_2 (by omega)
    have cl_j : (nI j).toNatClampNeg = j := nI_clamp (by omega)
    refine w_iload_n (n := 11) O dX6_luck_10 rfl rfl rfl ?_
    refine w_iconst (n := 12) O dX6_luck_11 (v := (nI 0)) (by decide) rfl ?_
    refine w_iconst (n := 13) O dX6_luck_12 (v := (nI 1)) (by decide) rfl ?_
    refine w_cS (n := 16) (ro := some (.int (bI (wIn (x) (nI (0)) (nI (1)))))) (R := fun mM' => mM = mM') (st := []) (st1 := [.int (bI (wIn (x) (nI (0)) (nI (1))))]) (As := [.int (x), .int (nI 0), .int (nI 1)]) O dX6_luck_13 ul_X6_66 um_X6_within (f_X6_within hW ⟨rfl, rfl⟩) rfl rfl rfl (by decide) (Nat.le_of_ble_eq_true rfl) rfl (fun mhM_3 hM_3 => ?_)
    subst hM_3
    refine w_if_neB (n := 19) (tgt := 23) O dX6_luck_16 (by decide) rfl (fun c_4 => ?_) (fun c_4 => ?_)
    · skip
      have hr_i := c_4
      obtain ⟨i, ia, ib, rfl⟩ := wIn_t (by omega) c_4 (by omega)
      have cl_i : (nI i).toNatClampNeg = i := nI_clamp (by omega)
      refine w_aload_n (n := 24) O dX6_luck_23 rfl rfl rfl ?_
      refine w_aload_n (n := 25) O dX6_luck_24 rfl rfl rfl ?_
      refine w_iload_n (n := 26) O dX6_luck_25 rfl rfl rfl ?_
      refine w_iconst (n := 27) O dX6_luck_26 (v := (nI 0)) (by decide) rfl ?_
      refine w_top (bI false) rfl ?_
      refine w_cV (n := 30) (ro := some (.long (lN (lieS T j false (2 ^ T.2.2.2.1))))) (R := fun mM' => ∃ pa' am' w', isM G mM' pa' am' w' ∧ okP pa' ∧ sm mM mM' 9 11) (st := [.ref (gb_ad G 0)]) (st1 := [.long (lN (lieS T j false (2 ^ T.2.2.2.1))), .ref (gb_ad G 0)]) (As := [.int (nI (j)), .int (bI (false))]) (b := 0) O dX6_luck_27 ul_X6_195 um_X6_sumOverLiars (f_X6_sumOverLiars (T := T) hW hB ⟨hT.1, hT.2.1, hT.2.2.1, hT.2.2.2⟩ ok ⟨hM.1, hM.2.1, hM.2.2⟩ hp (by omega) (fun M' a b c h1 h2 h3 => ⟨rfl, a, b, c, h1, h2, h3⟩)) rfl (by omega) hB rfl rfl rfl rfl (by decide) (Nat.le_of_ble_eq_true rfl) rfl (fun mhM_5 hM_5 => ?_)
      obtain ⟨pa3, am3, w3, hM3, hp3, hs3⟩ := hM_5
      refine w_iload_n (n := 31) O dX6_luck_30 rfl rfl rfl ?_
      have hlb := lieS_le ok (v := j) (by omega) false (m := 2 ^ T.2.2.2.1) (pow4 hn4)
      refine w_cV (n := 34) (ro := some (.long (lN (fracN (lieS T j false (2 ^ T.2.2.2.1)) (10 ^ T.2.2.2.1) i)))) (R := fun mM' => mhM_5 = mM') (st := []) (st1 := [.long (lN (fracN (lieS T j false (2 ^ T.2.2.2.1)) (10 ^ T.2.2.2.1) i))]) (As := [.long (lN (lieS T j false (2 ^ T.2.2.2.1))), .int (nI (i))]) (b := 0) O dX6_luck_31 ul_X6_199 um_X6_fraction (f_X6_fraction (T := T) hW ((hs3 (0) (by omega)).trans hB) ⟨((hs3 (1) (by omega)).trans hT.1), ((hs3 (2) (by omega)).trans hT.2.1), ((hs3 (3) (by omega)).trans hT.2.2.1), ((hs3 (4) (by omega)).trans hT.2.2.2)⟩ ok (by omega) (by omega) ⟨rfl, rfl⟩) rfl (by omega) ((hs3 (0) (by omega)).trans hB) rfl rfl rfl rfl (by decide) (Nat.le_of_ble_eq_true rfl) rfl (fun mhM_6 hM_6 => ?_)
      subst hM_6
      refine w_lret O dX6_luck_34 ?_
      have e0 : a_lies T false (nI j) (nI i) = lN (fracN (lieS T j false (2 ^ T.2.2.2.1)) (10 ^ T.2.2.2.1) i) := by unfold a_lies liesOk; rw [hr_j, hr_i, cl_j, cl_i]; rfl
      rw [e0] at hQ
      try dsimp only at hQ
      exact hQ _ ⟨((hs3 (0) (by omega)).trans hB), ⟨((hs3 (1) (by omega)).trans hT.1), ((hs3 (2) (by omega)).trans hT.2.1), ((hs3 (3) (by omega)).trans hT.2.2.1), ((hs3 (4) (by omega)).trans hT.2.2.2)⟩, hok, (hU.kp (kp_sm hs3 (by omega))), ⟨_, _, _, ⟨hM3.1, hM3.2.1, hM3.2.2⟩, hp3⟩, (hP.kp (kp_sm hs3 (by omega))), (hS.kp (kp_sm hs3 (by omega))), (hG.kp (kp_sm hs3 (by omega))), (hI.kp (kp_sm hs3 (by omega))), ((hs3 (39) (by omega)).trans hK), (hH.kp (kp_sm hs3 (by omega)))⟩ (sm.rf.tr (hs3.mono (by omega) (by omega)))
    · skip
      refine w_ldc2 (n := 22) O dX6_luck_19 uc_X6_193 rfl ?_
      refine w_lret O dX6_luck_22 ?_
      have e0 : a_lies T false (nI j) x = -1 := by unfold a_lies liesOk; rw [c_4, Bool.and_false]; rfl
      rw [e0] at hQ
      try dsimp only at hQ
      exact hQ _ ⟨hB, ⟨hT.1, hT.2.1, hT.2.2.1, hT.2.2.2⟩, hok, hU, ⟨_, _, _, ⟨hM.1, hM.2.1, hM.2.2⟩, hp⟩, hP, hS, hG, hI, hK, hH⟩ sm.rf
