theorem i32_nI (x : Int32) : ∃ n, x = nI n := ⟨x.toBitVec.toNat, by
  apply Int32.toBitVec_inj.mp
  show x.toBitVec = BitVec.ofNat 32 x.toBitVec.toNat
  rw [BitVec.ofNat_toNat, BitVec.setWidth_eq]⟩
def yW (n fa tm sn : Nat) (x26 : Int32) (tn : Nat) : Nat → Int32 := fun k => if k = 1 then nI n else if k = 10 then nI fa else if k = 19 then nI 0 else if k = 20 then nI 0 else if k = 21 then oI none else if k = 22 then nI tm else if k = 24 then nI sn else if k = 26 then x26 else nI tn
def rp0 : Nat → Nat := fun k => if k = 24 then 6 else 0
theorem rp0_ok : ∀ j, j < 30 → pgI rp0 j = nI 0 := by decide +kernel
theorem ZR_0 : ZR rp0 0 false 0 0 0 Z0 := by
  refine ⟨⟨fun g hg => ?_, rfl, fun m hm => ?_, rfl, rfl, rfl⟩, rfl, rfl, rfl, rfl, ⟨by decide, by decide, fun z => absurd z (by decide)⟩⟩
  · exact (show ∀ g, g < 4 → rp0 g = 0 ∧ rp0 (4 + g) = 0 ∧ rp0 (8 + g) = 0 ∧ rp0 (12 + g) = 0 ∧ rp0 (16 + g) = 0 ∧ 0 = (if hasB 0 g = true then 1 else 0) by decide) g hg
  · exact (show ∀ m, m < 3 → rp0 (21 + m) = 0 ∧ rp0 (27 + m) = 0 by decide) m hm
theorem hw_no : ∀ t, t < 16 → ∀ g, g < 5 → ∀ hw, hw < 5 → (!hwB hw t || (decide (t / 2 ^ g = 0) == decide (hw ≤ g))) = true := by decide +kernel
theorem or16 : ∀ b, b < 16 → ∀ c, c < 16 → (b ||| c) < 16 := by decide +kernel
theorem noB_hw {Z : Sc} {hw : Nat} (hk : okZ Z) (h : hwOk hw (Z.2.1 ||| Z.2.2.1)) : noB Z = true ↔ Z.1.2.2.2.1 < hw := by
  have h4 := hk.1.1
  have h16 := or16 _ hk.2.2.1 _ hk.2.2.2.1
  have z := hw_no _ h16 Z.1.2.2.2.1 (by omega) hw (by have := h.1; omega)
  rw [hwB_ok.mpr h] at z
  have z2 : ((Z.2.1 ||| Z.2.2.1) / 2 ^ Z.1.2.2.2.1 = 0) ↔ hw ≤ Z.1.2.2.2.1 := by simpa using z
  unfold noB
  rw [nI_or, nI_shr (by omega) (by omega), decide_eq_true_eq]
  have hd := sh_le (Z.2.1 ||| Z.2.2.1) Z.1.2.2.2.1
  rw [← nI_0, nI_eq (by omega) (by decide), z2]
  omega
theorem sB_of : ∀ n, n < 5 → ∀ b, b < 16 → (!decide (b < 2 ^ n) || decide (sBits (fun g => hasB b g) n = b)) = true := by decide +kernel
theorem pg_pz {rp : Nat → Nat} {Z : Sc} (h : pgZ rp Z) (hk : okZ Z) (hb : Z.2.1 < 2 ^ Z.1.2.2.2.1) : pg0 rp Z.1 := by
  obtain ⟨h1, h2, h3, h4, h5, h6⟩ := h
  refine ⟨fun g hg => ?_, ?_, h3, h4, h5, h6⟩
  · have := h1 g hg
    exact ⟨this.1, this.2.1, this.2.2.1, this.2.2.2.1, this.2.2.2.2.1⟩
  · have e := sB_of Z.1.2.2.2.1 (by have := hk.1.1; omega) Z.2.1 hk.2.2.1
    rw [decide_eq_true hb] at e
    have e2 : sBits (fun g => hasB Z.2.1 g) Z.1.2.2.2.1 = Z.2.1 := by simpa using e
    rw [h2]
    refine Eq.trans e2.symm (sBits_cong (fun k hk2 => ?_))
    have h7 := (h1 k (by have := hk.1.1; omega)).2.2.2.2.2
    rw [h7]
    cases hasB Z.2.1 k <;> rfl
theorem hw_b {b c hw g : Nat} (h : hwOk hw (b ||| c)) (hg : hw ≤ g) : b < 2 ^ g := by
  have h1 : b ≤ b ||| c := Nat.left_le_or
  have h2 : 2 ^ hw ≤ 2 ^ g := Nat.pow_le_pow_right (by decide) hg
  have h3 := h.2.1
  omega
theorem dI_lt2 {hw rg : Nat} (hh : hw < 2 ^ 30) (hr : rg < 2 ^ 30) : dI hw < nI rg ↔ hw ≤ rg := by
  cases hw with
  | zero =>
    refine ⟨fun _ => Nat.zero_le _, fun _ => ?_⟩
    rw [Int32.lt_iff_toInt_lt, nI_toInt (by omega)]
    have h2 : (dI 0).toInt = -1 := by decide
    omega
  | succ k => rw [dI_s, nI_ltI (by omega) (by omega)]; omega
theorem tk_end {bs : Nat → Nat} {ln e : Nat} (hel : e ≤ ln) (h : tkS bs ln e = 1) : tkB bs ln e = ln := by
  have h1 := tkB_le (bs := bs) hel
  unfold tkS tkSb at h
  by_cases z : ln ≤ tkB bs ln e
  · omega
  · rw [if_neg z] at h
    repeat' split at h
    all_goals exact absurd h (by decide)
theorem pTx_z {bs : Nat → Nat} {ln k p l : Nat} {Z : Sc} (h : tkS bs ln p = 0) : (pTx bs ln (k + 1) Z p l).1 = (1, tkB bs ln p) := by
  simp only [pTx]
  rw [if_pos h]
theorem pTx_e {bs : Nat → Nat} {ln k p l : Nat} {Z : Sc} (h : tkS bs ln p = 1) : pTx bs ln (k + 1) Z p l = ((if noB Z = true then 6 else 0, ln), l, Z) := by
  simp only [pTx]
  rw [if_neg (by omega), if_pos h]
theorem pTx_l {bs : Nat → Nat} {ln k p l : Nat} {Z : Sc} (h0 : ¬ tkS bs ln p = 0) (h1 : ¬ tkS bs ln p = 1) : pTx bs ln (k + 1) Z p l = if (fLin bs ln Z (tkS bs ln p) (tkB bs ln p) (tkE bs ln p)).1 = 0 then pTx bs ln k (uLin bs ln Z (tkS bs ln p) (tkB bs ln p) (tkE bs ln p)) (eLin bs ln (tkS bs ln p) (tkB bs ln p) (tkE bs ln p)) (l + 1) else (fLin bs ln Z (tkS bs ln p) (tkB bs ln p) (tkE bs ln p), l + 1, Z) := by
  simp only [pTx]
  rw [if_neg h0, if_neg h1]
/-- where the reading stands -/
def txI (bs : Nat → Nat) (ln : Nat) (rp : Nat → Nat) (rg : Nat) (ia : Bool) (ht ad hw : Nat) (F : Nat × Nat) (e l : Nat) (Z : Sc) : Prop := (F.1 = 0 → ZR rp rg ia ht ad hw Z ∧ okZ Z ∧ l ≤ e ∧ tx bs ln = pTx bs ln (161 - l) Z e l) ∧ (¬ F.1 = 0 → (tx bs ln).1 = F)
theorem txI_0 {bs : Nat → Nat} {ln : Nat} : txI bs ln rp0 0 false 0 0 0 (aT bs ln 0, tkB bs ln 0) 0 0 Z0 := by
  refine ⟨fun _ => ⟨ZR_0, okZ_0, Nat.le_refl _, rfl⟩, fun h => ?_⟩
  obtain ⟨h1, h2⟩ := aT_1 (bs := bs) (ln := ln) (p := 0) h
  unfold tx
  rw [pTx_z h2, h1]
theorem txI_s {bs : Nat → Nat} {ln : Nat} {rp rp2 : Nat → Nat} {rg rg2 : Nat} {ia ia2 : Bool} {ht ad hw ht2 ad2 hw2 : Nat} {F : Nat × Nat} {e l : Nat} {Z : Sc} (hln : ln ≤ 160) (hel : e ≤ ln) (h : txI bs ln rp rg ia ht ad hw F e l Z) (hF : F.1 = 0) (h0 : ¬ tkS bs ln e = 0) (h1 : ¬ tkS bs ln e = 1) (hz : (fLin bs ln Z (tkS bs ln e) (tkB bs ln e) (tkE bs ln e)).1 = 0 → ZR rp2 rg2 ia2 ht2 ad2 hw2 (uLin bs ln Z (tkS bs ln e) (tkB bs ln e) (tkE bs ln e))) : txI bs ln rp2 rg2 ia2 ht2 ad2 hw2 (orF (fLin bs ln Z (tkS bs ln e) (tkB bs ln e) (tkE bs ln e)) (aTB bs ln (eLin bs ln (tkS bs ln e) (tkB bs ln e) (tkE bs ln e)))) (eLin bs ln (tkS bs ln e) (tkB bs ln e) (tkE bs ln e)) (l + 1) (uLin bs ln Z (tkS bs ln e) (tkB bs ln e) (tkE bs ln e)) := by
  obtain ⟨a1, a2, a3, a4⟩ := h.1 hF
  have g1 := tkE_gt (bs := bs) (ln := ln) (p := e) h1
  have g2 := eLin_ge bs ln (tkS bs ln e) (tkB bs ln e) (tkE bs ln e)
  have g3 := eLin_le (bs := bs) (tkS bs ln e) (tkB bs ln e) (tkE_le (bs := bs) hel)
  rw [show 161 - l = (160 - l) + 1 by omega, pTx_l h0 h1] at a4
  constructor
  · intro z
    have z1 := (orF_z z).1
    rw [if_pos z1] at a4
    exact ⟨hz z1, okZ_wd a2 z1, by omega, by rw [a4, show 161 - (l + 1) = 160 - l by omega]⟩
  · intro z
    by_cases z1 : (fLin bs ln Z (tkS bs ln e) (tkB bs ln e) (tkE bs ln e)).1 = 0
    · rw [if_pos z1] at a4
      rw [orF_0 z1] at z ⊢
      obtain ⟨b1, b2⟩ := aT_1 z
      rw [a4, show 160 - l = (159 - l) + 1 by omega, pTx_z b2]
      unfold aTB
      rw [b1]
    · rw [if_neg z1] at a4
      rw [orF_n z1, a4]
set_option maxRecDepth 100000 in
set_option maxHeartbeats 4000000 in
theorem f_X7_text {G : gb_G} (hW : gW G) {Q : Option Value → gb_M → Prop} {mM : gb_M} {T : Tw} {im : Nat → Tw} {kp : Nat → Bool} {bs : Nat → Nat} {ln fa : Nat} {st sf : Nat → Nat} {sn : Nat} {sh : Sh} {sc : Nat → Nat → Int32} {tn : Nat} (hok : okS T im kp bs ln fa st sf sn sh tn) (hM : isMW G mM T im kp bs ln fa st sf sn sh sc tn)  (hQ : ∀ M', isMW G M' (s_txT T bs ln) im (s_txK kp bs ln) bs 0 ((tx bs ln).1.1) st sf (s_txS sn bs ln) sh sc tn → sm mM M' 49 60 → Q (some (.int (a_text bs ln))) M') : Fn G 6 yX7_text cX7_text 3 (some .int) [.ref (gb_ad G 49)] mM Q := by
  obtain ⟨s, se, le, rp, te, la, ce, tm, x3, x4, x5, x6, x7, x11, x12, x13, x14, x15, x16, x26, h49, h50, h51, h52, h53, h54, h55, h56, h57, h58, h59, h60, htm, hpg, hIm, hSe, hLa, hLe, hCe⟩ := hM
  have ok := hok.1
  have hn4 := ok.1
  have hst9 := hok.2.1
  have hln := hok.2.2.2.1
  have hsn6 := hok.2.2.2.2.2.2.1
  obtain ⟨b12, rfl⟩ := i32_nI x12
  obtain ⟨b14, rfl⟩ := i32_nI x14
  obtain ⟨b15, rfl⟩ := i32_nI x15
  obtain ⟨b16, rfl⟩ := i32_nI x16
  have hbs := hok.2.2.2.2.1
  have hN := hW.2.2.1
  refine Fn.of hW.1 [(0, .ref (gb_ad G 49))] (by decide) (Nat.le_of_ble_eq_true rfl) rfl ?_
  intro X O
  refine w_aload_n (n := 1) O dX7_text_0 rfl rfl rfl ?_
  refine w_iconst (n := 2) O dX7_text_1 (v := (nI 0)) (by decide) rfl ?_
  refine w_putf (n := 5) (fs' := [.ref (gb_ad G 50), .int (nI (T.2.2.2.1)), .ref (gb_ad G 51), .int (x3), .int (x4), .int (x5), .int (x6), .int (x7), .ref (gb_ad G 52), .int (nI (ln)), .int (nI (fa)), .int (nI 0), .int (nI (b12)), .int (x13), .int (nI (b14)), .int (nI (b15)), .int (nI (b16)), .ref (gb_ad G 53), .ref (gb_ad G 54), .int (nI 0), .int (nI 0), .int (oI none), .int (nI (tm)), .ref (gb_ad G 55), .int (nI (sn)), .ref (gb_ad G 56), .int (x26), .ref (gb_ad G 57), .ref (gb_ad G 58), .ref (gb_ad G 59), .ref (gb_ad G 60), .int (nI (tn))]) O 11 dX7_text_2 (by omega) h49 rfl (by decide) uX7 uf_X7_57 tyX7 tyX7_ok nmX7 rfl rfl rfl (Nat.le_of_ble_eq_true rfl) rfl rfl ?_
  refine w_aload_n (n := 6) O dX7_text_5 rfl rfl rfl ?_
  refine w_iconst (n := 7) O dX7_text_6 (v := (nI 0)) (by decide) rfl ?_
  refine w_putf (n := 10) (fs' := [.ref (gb_ad G 50), .int (nI (T.2.2.2.1)), .ref (gb_ad G 51), .int (x3), .int (x4), .int (x5), .int (x6), .int (x7), .ref (gb_ad G 52), .int (nI (ln)), .int (nI (fa)), .int (nI 0), .int (nI (b12)), .int (nI 0), .int (nI (b14)), .int (nI (b15)), .int (nI (b16)), .ref (gb_ad G 53), .ref (gb_ad G 54), .int (nI 0), .int (nI 0), .int (oI none), .int (nI (tm)), .ref (gb_ad G 55), .int (nI (sn)), .ref (gb_ad G 56), .int (x26), .ref (gb_ad G 57), .ref (gb_ad G 58), .ref (gb_ad G 59), .ref (gb_ad G 60), .int (nI (tn))]) O 13 dX7_text_7 (by omega) (va_up_self _ _ _) rfl (by decide) uX7 uf_X7_69 tyX7 tyX7_ok nmX7 rfl rfl rfl (Nat.le_of_ble_eq_true rfl) rfl rfl ?_
  refine w_aload_n (n := 11) O dX7_text_10 rfl rfl rfl ?_
  refine w_iconst (n := 12) O dX7_text_11 (v := (nI 0)) (by decide) rfl ?_
  refine w_putf (n := 15) (fs' := [.ref (gb_ad G 50), .int (nI (T.2.2.2.1)), .ref (gb_ad G 51), .int (nI 0), .int (x4), .int (x5), .int (x6), .int (x7), .ref (gb_ad G 52), .int (nI (ln)), .int (nI (fa)), .int (nI 0), .int (nI (b12)), .int (nI 0), .int (nI (b14)), .int (nI (b15)), .int (nI (b16)), .ref (gb_ad G 53), .ref (gb_ad G 54), .int (nI 0), .int (nI 0), .int (oI none), .int (nI (tm)), .ref (gb_ad G 55), .int (nI (sn)), .ref (gb_ad G 56), .int (x26), .ref (gb_ad G 57), .ref (gb_ad G 58), .ref (gb_ad G 59), .ref (gb_ad G 60), .int (nI (tn))]) O 3 dX7_text_12 (by omega) (va_up_self _ _ _) rfl (by decide) uX7 uf_X7_105 tyX7 tyX7_ok nmX7 rfl rfl rfl (Nat.le_of_ble_eq_true rfl) rfl rfl ?_
  refine w_aload_n (n := 16) O dX7_text_15 rfl rfl rfl ?_
  refine w_iconst (n := 17) O dX7_text_16 (v := (nI 0)) (by decide) rfl ?_
  refine w_top (bI false) (by decide) ?_
  refine w_putf (n := 20) (fs' := [.ref (gb_ad G 50), .int (nI (T.2.2.2.1)), .ref (gb_ad G 51), .int (nI 0), .int (bI (false)), .int (x5), .int (x6), .int (x7), .ref (gb_ad G 52), .int (nI (ln)), .int (nI (fa)), .int (nI 0), .int (nI (b12)), .int (nI 0), .int (nI (b14)), .int (nI (b15)), .int (nI (b16)), .ref (gb_ad G 53), .ref (gb_ad G 54), .int (nI 0), .int (nI 0), .int (oI none), .int (nI (tm)), .ref (gb_ad G 55), .int (nI (sn)), .ref (gb_ad G 56), .int (x26), .ref (gb_ad G 57), .ref (gb_ad G 58), .ref (gb_ad G 59), .ref (gb_ad G 60), .int (nI (tn))]) O 4 dX7_text_17 (by omega) (va_up_self _ _ _) rfl (by decide) uX7 uf_X7_123 tyX7 tyX7_ok nmX7 rfl (bI_nar _) (bI_fit _) (Nat.le_of_ble_eq_true rfl) rfl rfl ?_
  refine w_aload_n (n := 21) O dX7_text_20 rfl rfl rfl ?_
  refine w_iconst (n := 22) O dX7_text_21 (v := (nI 0)) (by decide) rfl ?_
  refine w_putf (n := 25) (fs' := [.ref (gb_ad G 50), .int (nI (T.2.2.2.1)), .ref (gb_ad G 51), .int (nI 0), .int (bI (false)), .int (nI 0), .int (x6), .int (x7), .ref (gb_ad G 52), .int (nI (ln)), .int (nI (fa)), .int (nI 0), .int (nI (b12)), .int (nI 0), .int (nI (b14)), .int (nI (b15)), .int (nI (b16)), .ref (gb_ad G 53), .ref (gb_ad G 54), .int (nI 0), .int (nI 0), .int (oI none), .int (nI (tm)), .ref (gb_ad G 55), .int (nI (sn)), .ref (gb_ad G 56), .int (x26), .ref (gb_ad G 57), .ref (gb_ad G 58), .ref (gb_ad G 59), .ref (gb_ad G 60), .int (nI (tn))]) O 5 dX7_text_22 (by omega) (va_up_self _ _ _) rfl (by decide) uX7 uf_X7_115 tyX7 tyX7_ok nmX7 rfl rfl rfl (Nat.le_of_ble_eq_true rfl) rfl rfl ?_
  refine w_aload_n (n := 26) O dX7_text_25 rfl rfl rfl ?_
  refine w_iconst (n := 27) O dX7_text_26 (v := (nI 0)) (by decide) rfl ?_
  refine w_putf (n := 30) (fs' := [.ref (gb_ad G 50), .int (nI (T.2.2.2.1)), .ref (gb_ad G 51), .int (nI 0), .int (bI (false)), .int (nI 0), .int (nI 0), .int (x7), .ref (gb_ad G 52), .int (nI (ln)), .int (nI (fa)), .int (nI 0), .int (nI (b12)), .int (nI 0), .int (nI (b14)), .int (nI (b15)), .int (nI (b16)), .ref (gb_ad G 53), .ref (gb_ad G 54), .int (nI 0), .int (nI 0), .int (oI none), .int (nI (tm)), .ref (gb_ad G 55), .int (nI (sn)), .ref (gb_ad G 56), .int (x26), .ref (gb_ad G 57), .ref (gb_ad G 58), .ref (gb_ad G 59), .ref (gb_ad G 60), .int (nI (tn))]) O 6 dX7_text_27 (by omega) (va_up_self _ _ _) rfl (by decide) uX7 uf_X7_118 tyX7 tyX7_ok nmX7 rfl rfl rfl (Nat.le_of_ble_eq_true rfl) rfl rfl ?_
  refine w_aload_n (n := 31) O dX7_text_30 rfl rfl rfl ?_
  refine w_iconst (n := 32) O dX7_text_31 (v := (-1)) (by decide) rfl ?_
  refine w_top (dI 0) (by decide) ?_
  refine w_putf (n := 35) (fs' := [.ref (gb_ad G 50), .int (nI (T.2.2.2.1)), .ref (gb_ad G 51), .int (nI 0), .int (bI (false)), .int (nI 0), .int (nI 0), .int (dI 0), .ref (gb_ad G 52), .int (nI (ln)), .int (nI (fa)), .int (nI 0), .int (nI (b12)), .int (nI 0), .int (nI (b14)), .int (nI (b15)), .int (nI (b16)), .ref (gb_ad G 53), .ref (gb_ad G 54), .int (nI 0), .int (nI 0), .int (oI none), .int (nI (tm)), .ref (gb_ad G 55), .int (nI (sn)), .ref (gb_ad G 56), .int (x26), .ref (gb_ad G 57), .ref (gb_ad G 58), .ref (gb_ad G 59), .ref (gb_ad G 60), .int (nI (tn))]) O 7 dX7_text_32 (by omega) (va_up_self _ _ _) rfl (by decide) uX7 uf_X7_98 tyX7 tyX7_ok nmX7 rfl rfl rfl (Nat.le_of_ble_eq_true rfl) rfl rfl ?_
  refine w_iconst (n := 36) O dX7_text_35 (v := (nI 0)) (by decide) rfl ?_
  refine w_istore_n (n := 37) (lv' := [(1, .int (nI 0)), (0, .ref (gb_ad G 49))]) O dX7_text_36 rfl (by decide) rfl rfl ?_
  refine w_iconst (n := 38) O dX7_text_37 (v := (nI 0)) (by decide) rfl ?_
  refine w_istore_n (n := 39) (lv' := [(2, .int (nI 0)), (1, .int (nI 0)), (0, .ref (gb_ad G 49))]) O dX7_text_38 rfl (by decide) rfl rfl ?_
  have T1 : ∀ (k : Nat) (kz : Nat) (r1 : Nat → Int32) (m1 : gb_M), 30 - kz = k → kz ≤ 30 → (∀ k2, k2 < kz → r1 k2 = nI 0) → m1 49 = (.inr (7, [.ref (gb_ad G 50), .int (nI (T.2.2.2.1)), .ref (gb_ad G 51), .int (nI 0), .int (bI (false)), .int (nI 0), .int (nI 0), .int (dI 0), .ref (gb_ad G 52), .int (nI (ln)), .int (nI (fa)), .int (nI 0), .int (nI (b12)), .int (nI 0), .int (nI (b14)), .int (nI (b15)), .int (nI (b16)), .ref (gb_ad G 53), .ref (gb_ad G 54), .int (nI 0), .int (nI 0), .int (oI none), .int (nI (tm)), .ref (gb_ad G 55), .int (nI (sn)), .ref (gb_ad G 56), .int (x26), .ref (gb_ad G 57), .ref (gb_ad G 58), .ref (gb_ad G 59), .ref (gb_ad G 60), .int (nI (tn))])) → m1 51 = IA G 30 r1 → sm2 mM m1 49 49 51 51 → Wm G X 3 Q 39 [(0, .ref (gb_ad G 49)), (1, .int (nI 0)), (2, .int (nI (kz)))] [] m1 := by
    intro k
    induction k using Nat.strongRecOn with
    | ind k ih_T1 =>
      intro kz r1 m1 hk hkz hr1 h491 h511 hs1
      refine w_iload_n (n := 40) O dX7_text_39 rfl rfl rfl ?_
      refine w_bipush (n := 42) O dX7_text_40 (v := (nI 30)) (by decide) rfl ?_
      refine w_icmp_geN (n := 45) (tgt := 58) O dX7_text_42 (by omega) (by omega) (by decide) rfl (fun c_1 => ?_) (fun c_1 => ?_)
      · skip
        have ekz : kz = 30 := by omega
        subst ekz
        refine Wm.cells (arr_same (a := 51) (z := 30) (cA := gI G) (r := r1) (pgI rp0) h511 (fun j2 hj2 => (hr1 j2 hj2).trans (rp0_ok j2 hj2).symm)) ?_
        obtain ⟨Y, hY⟩ : ∃ Y, Y = yW T.2.2.2.1 fa tm sn x26 tn := ⟨_, rfl⟩
        have hR0 : isR G (va_up m1 (51) (IA G 30 (pgI rp0))) Y bs rp0 ln 0 false 0 0 0 0 b12 0 b14 b15 b16 := ⟨by rw [hY]; exact ((va_up_ne _ _ (by decide)).trans h491), (va_up_self _ _ _), ((va_up_ne _ _ (by decide)).trans ((hs1 (52) (by omega) (by omega)).trans h52)), ((va_up_ne _ _ (by decide)).trans ((hs1 (53) (by omega) (by omega)).trans h53)), ((va_up_ne _ _ (by decide)).trans ((hs1 (54) (by omega) (by omega)).trans h54))⟩
        refine w_aload_n (n := 59) O dX7_text_58 rfl rfl rfl ?_
        refine w_cV (n := 62) (ro := none) (R := fun mM' => PM G mM' Y bs rp0 ln 0 false 0 0 0 (aT bs ln 0, tkB bs ln 0) 0 ∧ sm (va_up m1 (51) (IA G 30 (pgI rp0))) mM' 49 49) (st := []) (st1 := []) (As := []) (b := 49) O dX7_text_59 ul_X7_91 um_X7_step (f_X7_step1 hW ⟨hR0.1, hR0.2.1, hR0.2.2.1, hR0.2.2.2.1, hR0.2.2.2.2⟩ hln hbs (by omega) (fun M' h1 h2 => ⟨rfl, h1, h2⟩)) rfl (by omega) hR0.1 rfl rfl rfl rfl (by omega) (Nat.le_of_ble_eq_true rfl) rfl (fun mhM_2 hM_2 => ?_)
        obtain ⟨⟨bahM_2, sphM_2, hehM_2, tkhM_2, vahM_2, hRhM_2, hLhM_2, he9hM_2⟩, hshM_2⟩ := hM_2
        obtain ⟨hl1hM_2, hl2hM_2, hl3hM_2, hl4hM_2, hl5hM_2, hl6hM_2, hl7hM_2⟩ := id hLhM_2
        have T2 : ∀ (k : Nat) (l : Nat) (m2 : gb_M) (rp1 : Nat → Nat) (rg1 : Nat) (ia1 : Bool) (ht1 ad1 hw1 : Nat) (F : Nat × Nat) (e : Nat) (Z : Sc), 161 - l = k → l ≤ 160 → PM G m2 Y bs rp1 ln rg1 ia1 ht1 ad1 hw1 F e → txI bs ln rp1 rg1 ia1 ht1 ad1 hw1 F e l Z → sm2 mM m2 49 49 51 51 → Wm G X 3 Q 62 [(0, .ref (gb_ad G 49)), (1, .int (nI (l)))] [] m2 := by
          intro k
          induction k using Nat.strongRecOn with
          | ind k ih_T2 =>
            intro l m2 rp1 rg1 ia1 ht1 ad1 hw1 F e Z hk hl hPM htx hs2
            obtain ⟨ba, sp, he, tk, va, hR, hL, hel⟩ := id hPM
            obtain ⟨hl1, hl2, hl3, hl4, hl5, hl6, hl7⟩ := id hL
            refine w_aload_n (n := 63) O dX7_text_62 rfl rfl rfl ?_
            refine w_getf (n := 66) O 11 dX7_text_63 (by omega) hR.1 rfl (by decide) uX7 uf_X7_57 rfl rfl ?_
            refine w_if_neN (n := 69) (tgt := 86) O dX7_text_66 (by omega) (by decide) rfl (fun c_3 => ?_) (fun c_3 => ?_)
            · skip
              refine w_aload_n (n := 87) O dX7_text_86 rfl rfl rfl ?_
              refine w_getf (n := 90) O 11 dX7_text_87 (by omega) hR.1 rfl (by decide) uX7 uf_X7_57 rfl rfl ?_
              refine w_if_neN (n := 93) (tgt := 110) O dX7_text_90 (by omega) (by decide) rfl (fun c_4 => ?_) (fun c_4 => absurd c_4 c_3)
              refine w_aload_n (n := 111) O dX7_text_110 rfl rfl rfl ?_
              refine w_iconst (n := 112) O dX7_text_111 (v := (nI 0)) (by decide) rfl ?_
              refine w_putf (n := 115) (fs' := [.ref (gb_ad G 50), .int (Y 1), .ref (gb_ad G 51), .int (nI (rg1)), .int (bI (ia1)), .int (nI (ht1)), .int (nI (ad1)), .int (dI hw1), .ref (gb_ad G 52), .int (nI 0), .int (Y 10), .int (nI (F.1)), .int (nI (ba)), .int (nI (sp)), .int (nI (he)), .int (nI (tk)), .int (nI (va)), .ref (gb_ad G 53), .ref (gb_ad G 54), .int (Y 19), .int (Y 20), .int (Y 21), .int (Y 22), .ref (gb_ad G 55), .int (Y 24), .ref (gb_ad G 56), .int (Y 26), .ref (gb_ad G 57), .ref (gb_ad G 58), .ref (gb_ad G 59), .ref (gb_ad G 60), .int (Y 31)]) O 9 dX7_text_112 (by omega) hR.1 rfl (by decide) uX7 uf_X7_54 tyX7 tyX7_ok nmX7 rfl rfl rfl (Nat.le_of_ble_eq_true rfl) rfl rfl ?_
              refine w_aload_n (n := 116) O dX7_text_115 rfl rfl rfl ?_
              refine w_aload_n (n := 117) O dX7_text_116 rfl rfl rfl ?_
              refine w_getf (n := 120) O 11 dX7_text_117 (by omega) (va_up_self _ _ _) rfl (by decide) uX7 uf_X7_57 rfl rfl ?_
              refine w_putf (n := 123) (fs' := [.ref (gb_ad G 50), .int (Y 1), .ref (gb_ad G 51), .int (nI (rg1)), .int (bI (ia1)), .int (nI (ht1)), .int (nI (ad1)), .int (dI hw1), .ref (gb_ad G 52), .int (nI 0), .int (nI (F.1)), .int (nI (F.1)), .int (nI (ba)), .int (nI (sp)), .int (nI (he)), .int (nI (tk)), .int (nI (va)), .ref (gb_ad G 53), .ref (gb_ad G 54), .int (Y 19), .int (Y 20), .int (Y 21), .int (Y 22), .ref (gb_ad G 55), .int (Y 24), .ref (gb_ad G 56), .int (Y 26), .ref (gb_ad G 57), .ref (gb_ad G 58), .ref (gb_ad G 59), .ref (gb_ad G 60), .int (Y 31)]) O 10 dX7_text_120 (by omega) (va_up_self _ _ _) rfl (by decide) uX7 uf_X7_133 tyX7 tyX7_ok nmX7 rfl rfl rfl (Nat.le_of_ble_eq_true rfl) rfl rfl ?_
              refine w_aload_n (n := 124) O dX7_text_123 rfl rfl rfl ?_
              refine w_getf (n := 127) O 11 dX7_text_124 (by omega) (va_up_self _ _ _) rfl (by decide) uX7 uf_X7_57 rfl rfl ?_
              refine w_if_leN (n := 130) (tgt := 138) O dX7_text_127 (by omega) (by decide) rfl (fun c_5 => absurd c_5 c_3) (fun c_5 => ?_)
              refine w_bipush (n := 132) O dX7_text_130 (v := (-10)) (by decide) rfl ?_
              refine w_aload_n (n := 133) O dX7_text_132 rfl rfl rfl ?_
              refine w_getf (n := 136) O 12 dX7_text_133 (by omega) (va_up_self _ _ _) rfl (by decide) uX7 uf_X7_63 rfl rfl ?_
              refine w_isub (n := 137) O dX7_text_136 rfl ?_
              refine w_iret O dX7_text_137 ?_
              have etx : (tx bs ln).1 = F := htx.2 c_3
              have hba := hl6 c_3
              have h49z : (va_up (va_up m2 (49) (.inr (7, [.ref (gb_ad G 50), .int (Y 1), .ref (gb_ad G 51), .int (nI (rg1)), .int (bI (ia1)), .int (nI (ht1)), .int (nI (ad1)), .int (dI hw1), .ref (gb_ad G 52), .int (nI 0), .int (Y 10), .int (nI (F.1)), .int (nI (ba)), .int (nI (sp)), .int (nI (he)), .int (nI (tk)), .int (nI (va)), .ref (gb_ad G 53), .ref (gb_ad G 54), .int (Y 19), .int (Y 20), .int (Y 21), .int (Y 22), .ref (gb_ad G 55), .int (Y 24), .ref (gb_ad G 56), .int (Y 26), .ref (gb_ad G 57), .ref (gb_ad G 58), .ref (gb_ad G 59), .ref (gb_ad G 60), .int (Y 31)]))) (49) (.inr (7, [.ref (gb_ad G 50), .int (Y 1), .ref (gb_ad G 51), .int (nI (rg1)), .int (bI (ia1)), .int (nI (ht1)), .int (nI (ad1)), .int (dI hw1), .ref (gb_ad G 52), .int (nI 0), .int (nI (F.1)), .int (nI (F.1)), .int (nI (ba)), .int (nI (sp)), .int (nI (he)), .int (nI (tk)), .int (nI (va)), .ref (gb_ad G 53), .ref (gb_ad G 54), .int (Y 19), .int (Y 20), .int (Y 21), .int (Y 22), .ref (gb_ad G 55), .int (Y 24), .ref (gb_ad G 56), .int (Y 26), .ref (gb_ad G 57), .ref (gb_ad G 58), .ref (gb_ad G 59), .ref (gb_ad G 60), .int (Y 31)]))) 49 = (.inr (7, [.ref (gb_ad G 50), .int (nI (T.2.2.2.1)), .ref (gb_ad G 51), .int (nI (rg1)), .int (bI (ia1)), .int (nI (ht1)), .int (nI (ad1)), .int (dI hw1), .ref (gb_ad G 52), .int (nI 0), .int (nI (F.1)), .int (nI (F.1)), .int (nI (ba)), .int (nI (sp)), .int (nI (he)), .int (nI (tk)), .int (nI (va)), .ref (gb_ad G 53), .ref (gb_ad G 54), .int (nI 0), .int (nI 0), .int (oI none), .int (nI (tm)), .ref (gb_ad G 55), .int (nI (sn)), .ref (gb_ad G 56), .int (x26), .ref (gb_ad G 57), .ref (gb_ad G 58), .ref (gb_ad G 59), .ref (gb_ad G 60), .int (nI (tn))])) := ((va_up_self _ _ _)).trans (show ((.inr (7, [.ref (gb_ad G 50), .int (Y 1), .ref (gb_ad G 51), .int (nI (rg1)), .int (bI (ia1)), .int (nI (ht1)), .int (nI (ad1)), .int (dI hw1), .ref (gb_ad G 52), .int (nI 0), .int (nI (F.1)), .int (nI (F.1)), .int (nI (ba)), .int (nI (sp)), .int (nI (he)), .int (nI (tk)), .int (nI (va)), .ref (gb_ad G 53), .ref (gb_ad G 54), .int (Y 19), .int (Y 20), .int (Y 21), .int (Y 22), .ref (gb_ad G 55), .int (Y 24), .ref (gb_ad G 56), .int (Y 26), .ref (gb_ad G 57), .ref (gb_ad G 58), .ref (gb_ad G 59), .ref (gb_ad G 60), .int (Y 31)])) : va_E) = (.inr (7, [.ref (gb_ad G 50), .int (nI (T.2.2.2.1)), .ref (gb_ad G 51), .int (nI (rg1)), .int (bI (ia1)), .int (nI (ht1)), .int (nI (ad1)), .int (dI hw1), .ref (gb_ad G 52), .int (nI 0), .int (nI (F.1)), .int (nI (F.1)), .int (nI (ba)), .int (nI (sp)), .int (nI (he)), .int (nI (tk)), .int (nI (va)), .ref (gb_ad G 53), .ref (gb_ad G 54), .int (nI 0), .int (nI 0), .int (oI none), .int (nI (tm)), .ref (gb_ad G 55), .int (nI (sn)), .ref (gb_ad G 56), .int (x26), .ref (gb_ad G 57), .ref (gb_ad G 58), .ref (gb_ad G 59), .ref (gb_ad G 60), .int (nI (tn))])) by subst hY; rfl)
              have e0 : a_text bs ln = (((-10) - (nI (ba)))) := by unfold a_text; rw [if_neg (by rw [etx]; exact c_3), etx]; rw [hba]
              have e1 : s_txT T bs ln = T := if_neg (by rw [etx]; exact c_3)
              have e2 : s_txK kp bs ln = kp := if_neg (by rw [etx]; exact c_3)
              have e3 : s_txS sn bs ln = sn := if_neg (by rw [etx]; exact c_3)
              have e4 : (tx bs ln).1.1 = F.1 := by rw [etx]
              rw [e0, e1, e2, e3, e4] at hQ
              try dsimp only at hQ
              exact hQ ((va_up (va_up m2 (49) (.inr (7, [.ref (gb_ad G 50), .int (Y 1), .ref (gb_ad G 51), .int (nI (rg1)), .int (bI (ia1)), .int (nI (ht1)), .int (nI (ad1)), .int (dI hw1), .ref (gb_ad G 52), .int (nI 0), .int (Y 10), .int (nI (F.1)), .int (nI (ba)), .int (nI (sp)), .int (nI (he)), .int (nI (tk)), .int (nI (va)), .ref (gb_ad G 53), .ref (gb_ad G 54), .int (Y 19), .int (Y 20), .int (Y 21), .int (Y 22), .ref (gb_ad G 55), .int (Y 24), .ref (gb_ad G 56), .int (Y 26), .ref (gb_ad G 57), .ref (gb_ad G 58), .ref (gb_ad G 59), .ref (gb_ad G 60), .int (Y 31)]))) (49) (.inr (7, [.ref (gb_ad G 50), .int (Y 1), .ref (gb_ad G 51), .int (nI (rg1)), .int (bI (ia1)), .int (nI (ht1)), .int (nI (ad1)), .int (dI hw1), .ref (gb_ad G 52), .int (nI 0), .int (nI (F.1)), .int (nI (F.1)), .int (nI (ba)), .int (nI (sp)), .int (nI (he)), .int (nI (tk)), .int (nI (va)), .ref (gb_ad G 53), .ref (gb_ad G 54), .int (Y 19), .int (Y 20), .int (Y 21), .int (Y 22), .ref (gb_ad G 55), .int (Y 24), .ref (gb_ad G 56), .int (Y 26), .ref (gb_ad G 57), .ref (gb_ad G 58), .ref (gb_ad G 59), .ref (gb_ad G 60), .int (Y 31)])))) ⟨_, _, _, _, _, _, _, _, _, _, _, _, _, _, _, _, _, _, _, _, h49z, ((va_up_ne _ _ (by decide)).trans ((va_up_ne _ _ (by decide)).trans ((hs2 (50) (by omega) (by omega)).trans h50))), ((va_up_ne _ _ (by decide)).trans ((va_up_ne _ _ (by decide)).trans hR.2.1)), ((va_up_ne _ _ (by decide)).trans ((va_up_ne _ _ (by decide)).trans hR.2.2.1)), ((va_up_ne _ _ (by decide)).trans ((va_up_ne _ _ (by decide)).trans hR.2.2.2.1)), ((va_up_ne _ _ (by decide)).trans ((va_up_ne _ _ (by decide)).trans hR.2.2.2.2)), ((va_up_ne _ _ (by decide)).trans ((va_up_ne _ _ (by decide)).trans ((hs2 (55) (by omega) (by omega)).trans h55))), ((va_up_ne _ _ (by decide)).trans ((va_up_ne _ _ (by decide)).trans ((hs2 (56) (by omega) (by omega)).trans h56))), ((va_up_ne _ _ (by decide)).trans ((va_up_ne _ _ (by decide)).trans ((hs2 (57) (by omega) (by omega)).trans h57))), ((va_up_ne _ _ (by decide)).trans ((va_up_ne _ _ (by decide)).trans ((hs2 (58) (by omega) (by omega)).trans h58))), ((va_up_ne _ _ (by decide)).trans ((va_up_ne _ _ (by decide)).trans ((hs2 (59) (by omega) (by omega)).trans h59))), ((va_up_ne _ _ (by decide)).trans ((va_up_ne _ _ (by decide)).trans ((hs2 (60) (by omega) (by omega)).trans h60))), htm, hpg, hIm, hSe, hLa, hLe, hCe⟩ (((sm.rf.tr (hs2.one (by omega))).up (by omega) (by omega)).up (by omega) (by omega))
            · skip
              refine w_aload_n (n := 70) O dX7_text_69 rfl rfl rfl ?_
              refine w_getf (n := 73) O 15 dX7_text_70 (by omega) hR.1 rfl (by decide) uX7 uf_X7_66 rfl rfl ?_
              refine w_if_eqN (n := 76) (tgt := 86) O dX7_text_73 (by omega) (by decide) rfl (fun c_6 => ?_) (fun c_6 => ?_)
              · skip
                refine w_aload_n (n := 87) O dX7_text_86 rfl rfl rfl ?_
                refine w_getf (n := 90) O 11 dX7_text_87 (by omega) hR.1 rfl (by decide) uX7 uf_X7_57 rfl rfl ?_
                refine w_if_neN (n := 93) (tgt := 110) O dX7_text_90 (by omega) (by decide) rfl (fun c_7 => absurd c_3 c_7) (fun c_7 => ?_)
                obtain ⟨q1, q2, q3, q4⟩ := hl7 c_3
                subst q1
                subst q2
                have hRc := hR
                rw [c_3] at hRc
                obtain ⟨x1, x2, x3z, x4z⟩ := htx.1 c_3
                have eS1 : tkS bs ln e = 1 := by omega
                have eB := tk_end hel eS1
                have hz2 := x1.2.1
                have hh4 := x1.2.2.2.2.2.1
                have hg4 := x2.1.1
                have et := x4z
                rw [show 161 - l = (160 - l) + 1 by omega, pTx_e eS1] at et
                refine w_aload_n (n := 94) O dX7_text_93 rfl rfl rfl ?_
                refine w_getf (n := 97) O 7 dX7_text_94 (by omega) hRc.1 rfl (by decide) uX7 uf_X7_98 rfl rfl ?_
                refine w_aload_n (n := 98) O dX7_text_97 rfl rfl rfl ?_
                refine w_getf (n := 101) O 3 dX7_text_98 (by omega) hRc.1 rfl (by decide) uX7 uf_X7_105 rfl rfl ?_
                refine w_icmp_lt (n := 104) (tgt := 110) O dX7_text_101 (by decide) rfl (fun c_8 => ?_) (fun c_8 => ?_)
                · skip
                  refine w_aload_n (n := 111) O dX7_text_110 rfl rfl rfl ?_
                  refine w_iconst (n := 112) O dX7_text_111 (v := (nI 0)) (by decide) rfl ?_
                  refine w_putf (n := 115) (fs' := [.ref (gb_ad G 50), .int (Y 1), .ref (gb_ad G 51), .int (nI (rg1)), .int (bI (ia1)), .int (nI (ht1)), .int (nI (ad1)), .int (dI hw1), .ref (gb_ad G 52), .int (nI 0), .int (Y 10), .int (nI 0), .int (nI (ba)), .int (nI (tkE bs ln e)), .int (nI (tkB bs ln e)), .int (nI (tk)), .int (nI (va)), .ref (gb_ad G 53), .ref (gb_ad G 54), .int (Y 19), .int (Y 20), .int (Y 21), .int (Y 22), .ref (gb_ad G 55), .int (Y 24), .ref (gb_ad G 56), .int (Y 26), .ref (gb_ad G 57), .ref (gb_ad G 58), .ref (gb_ad G 59), .ref (gb_ad G 60), .int (Y 31)]) O 9 dX7_text_112 (by omega) hRc.1 rfl (by decide) uX7 uf_X7_54 tyX7 tyX7_ok nmX7 rfl rfl rfl (Nat.le_of_ble_eq_true rfl) rfl rfl ?_
                  refine w_aload_n (n := 116) O dX7_text_115 rfl rfl rfl ?_
                  refine w_aload_n (n := 117) O dX7_text_116 rfl rfl rfl ?_
                  refine w_getf (n := 120) O 11 dX7_text_117 (by omega) (va_up_self _ _ _) rfl (by decide) uX7 uf_X7_57 rfl rfl ?_
                  refine w_putf (n := 123) (fs' := [.ref (gb_ad G 50), .int (Y 1), .ref (gb_ad G 51), .int (nI (rg1)), .int (bI (ia1)), .int (nI (ht1)), .int (nI (ad1)), .int (dI hw1), .ref (gb_ad G 52), .int (nI 0), .int (nI 0), .int (nI 0), .int (nI (ba)), .int (nI (tkE bs ln e)), .int (nI (tkB bs ln e)), .int (nI (tk)), .int (nI (va)), .ref (gb_ad G 53), .ref (gb_ad G 54), .int (Y 19), .int (Y 20), .int (Y 21), .int (Y 22), .ref (gb_ad G 55), .int (Y 24), .ref (gb_ad G 56), .int (Y 26), .ref (gb_ad G 57), .ref (gb_ad G 58), .ref (gb_ad G 59), .ref (gb_ad G 60), .int (Y 31)]) O 10 dX7_text_120 (by omega) (va_up_self _ _ _) rfl (by decide) uX7 uf_X7_133 tyX7 tyX7_ok nmX7 rfl rfl rfl (Nat.le_of_ble_eq_true rfl) rfl rfl ?_
                  refine w_aload_n (n := 124) O dX7_text_123 rfl rfl rfl ?_
                  refine w_getf (n := 127) O 11 dX7_text_124 (by omega) (va_up_self _ _ _) rfl (by decide) uX7 uf_X7_57 rfl rfl ?_
                  refine w_if_leN (n := 130) (tgt := 138) O dX7_text_127 (by omega) (by decide) rfl (fun c_9 => ?_) (fun c_9 => by omega)
                  refine w_iconst (n := 139) O dX7_text_138 (v := (nI 0)) (by decide) rfl ?_
                  refine w_istore_n (n := 140) (lv' := [(2, .int (nI 0)), (0, .ref (gb_ad G 49)), (1, .int (nI (l)))]) O dX7_text_139 rfl (by decide) rfl rfl ?_
                  have T3 : ∀ (k : Nat) (kc : Nat) (s1 : Nat → Nat) (m3 : gb_M), 30 - kc = k → kc ≤ 30 → (∀ k2, s1 k2 = if k2 < kc then rp1 k2 else s k2) → m3 50 = IA G 150 (pgI s1) → sm (va_up (va_up m2 (49) (.inr (7, [.ref (gb_ad G 50), .int (Y 1), .ref (gb_ad G 51), .int (nI (rg1)), .int (bI (ia1)), .int (nI (ht1)), .int (nI (ad1)), .int (dI hw1), .ref (gb_ad G 52), .int (nI 0), .int (Y 10), .int (nI 0), .int (nI (ba)), .int (nI (tkE bs ln e)), .int (nI (tkB bs ln e)), .int (nI (tk)), .int (nI (va)), .ref (gb_ad G 53), .ref (gb_ad G 54), .int (Y 19), .int (Y 20), .int (Y 21), .int (Y 22), .ref (gb_ad G 55), .int (Y 24), .ref (gb_ad G 56), .int (Y 26), .ref (gb_ad G 57), .ref (gb_ad G 58), .ref (gb_ad G 59), .ref (gb_ad G 60), .int (Y 31)]))) (49) (.inr (7, [.ref (gb_ad G 50), .int (Y 1), .ref (gb_ad G 51), .int (nI (rg1)), .int (bI (ia1)), .int (nI (ht1)), .int (nI (ad1)), .int (dI hw1), .ref (gb_ad G 52), .int (nI 0), .int (nI 0), .int (nI 0), .int (nI (ba)), .int (nI (tkE bs ln e)), .int (nI (tkB bs ln e)), .int (nI (tk)), .int (nI (va)), .ref (gb_ad G 53), .ref (gb_ad G 54), .int (Y 19), .int (Y 20), .int (Y 21), .int (Y 22), .ref (gb_ad G 55), .int (Y 24), .ref (gb_ad G 56), .int (Y 26), .ref (gb_ad G 57), .ref (gb_ad G 58), .ref (gb_ad G 59), .ref (gb_ad G 60), .int (Y 31)]))) m3 50 50 → Wm G X 3 Q 140 [(0, .ref (gb_ad G 49)), (1, .int (nI (l))), (2, .int (nI (kc)))] [] m3 := by
                    intro k
                    induction k using Nat.strongRecOn with
                    | ind k ih_T3 =>
                      intro kc s1 m3 hk hkc hcp h503 hs3
                      refine w_iload_n (n := 141) O dX7_text_140 rfl rfl rfl ?_
                      refine w_bipush (n := 143) O dX7_text_141 (v := (nI 30)) (by decide) rfl ?_
                      refine w_icmp_geN (n := 146) (tgt := 164) O dX7_text_143 (by omega) (by omega) (by decide) rfl (fun c_10 => ?_) (fun c_10 => ?_)
                      · skip
                        refine w_aload_n (n := 165) O dX7_text_164 rfl rfl rfl ?_
                        refine w_aload_n (n := 166) O dX7_text_165 rfl rfl rfl ?_
                        refine w_getf (n := 169) O 3 dX7_text_166 (by omega) ((hs3 (49) (by omega)).trans (va_up_self _ _ _)) rfl (by decide) uX7 uf_X7_105 rfl rfl ?_
                        refine w_putf (n := 172) (fs' := [.ref (gb_ad G 50), .int (nI (rg1)), .ref (gb_ad G 51), .int (nI (rg1)), .int (bI (ia1)), .int (nI (ht1)), .int (nI (ad1)), .int (dI hw1), .ref (gb_ad G 52), .int (nI 0), .int (nI 0), .int (nI 0), .int (nI (ba)), .int (nI (tkE bs ln e)), .int (nI (tkB bs ln e)), .int (nI (tk)), .int (nI (va)), .ref (gb_ad G 53), .ref (gb_ad G 54), .int (Y 19), .int (Y 20), .int (Y 21), .int (Y 22), .ref (gb_ad G 55), .int (Y 24), .ref (gb_ad G 56), .int (Y 26), .ref (gb_ad G 57), .ref (gb_ad G 58), .ref (gb_ad G 59), .ref (gb_ad G 60), .int (Y 31)]) O 1 dX7_text_169 (by omega) ((hs3 (49) (by omega)).trans (va_up_self _ _ _)) rfl (by decide) uX7 uf_X7_136 tyX7 tyX7_ok nmX7 rfl rfl rfl (Nat.le_of_ble_eq_true rfl) rfl rfl ?_
                        refine w_aload_n (n := 173) O dX7_text_172 rfl rfl rfl ?_
                        refine w_iconst (n := 174) O dX7_text_173 (v := (nI 0)) (by decide) rfl ?_
                        refine w_putf (n := 177) (fs' := [.ref (gb_ad G 50), .int (nI (rg1)), .ref (gb_ad G 51), .int (nI (rg1)), .int (bI (ia1)), .int (nI (ht1)), .int (nI (ad1)), .int (dI hw1), .ref (gb_ad G 52), .int (nI 0), .int (nI 0), .int (nI 0), .int (nI (ba)), .int (nI (tkE bs ln e)), .int (nI (tkB bs ln e)), .int (nI (tk)), .int (nI (va)), .ref (gb_ad G 53), .ref (gb_ad G 54), .int (Y 19), .int (Y 20), .int (Y 21), .int (Y 22), .ref (gb_ad G 55), .int (nI 0), .ref (gb_ad G 56), .int (Y 26), .ref (gb_ad G 57), .ref (gb_ad G 58), .ref (gb_ad G 59), .ref (gb_ad G 60), .int (Y 31)]) O 24 dX7_text_174 (by omega) (va_up_self _ _ _) rfl (by decide) uX7 uf_X7_139 tyX7 tyX7_ok nmX7 rfl rfl rfl (Nat.le_of_ble_eq_true rfl) rfl rfl ?_
                        refine w_aload_n (n := 178) O dX7_text_177 rfl rfl rfl ?_
                        refine w_getf (n := 181) O 27 dX7_text_178 (by omega) (va_up_self _ _ _) rfl (by decide) uX7 uf_X7_35 rfl rfl ?_
                        refine w_iconst (n := 182) O dX7_text_181 (v := (nI 0)) (by decide) rfl ?_
                        refine w_iconst (n := 183) O dX7_text_182 (v := (nI 0)) (by decide) rfl ?_
                        refine w_zastB (n := 184) (v := false) O dX7_text_183 hW.2.1 (by omega) ((va_up_ne _ _ (by decide)).trans ((va_up_ne _ _ (by decide)).trans ((hs3 (57) (by omega)).trans ((va_up_ne _ _ (by decide)).trans ((va_up_ne _ _ (by decide)).trans ((hs2 (57) (by omega) (by omega)).trans h57)))))) (by decide) (by omega) (by decide) rfl ?_
                        refine w_aload_n (n := 185) O dX7_text_184 rfl rfl rfl ?_
                        refine w_getf (n := 188) O 27 dX7_text_185 (by omega) ((va_up_ne _ _ (by decide)).trans (va_up_self _ _ _)) rfl (by decide) uX7 uf_X7_35 rfl rfl ?_
                        refine w_iconst (n := 189) O dX7_text_188 (v := (nI 1)) (by decide) rfl ?_
                        refine w_iconst (n := 190) O dX7_text_189 (v := (nI 0)) (by decide) rfl ?_
                        refine w_zastB (n := 191) (v := false) O dX7_text_190 hW.2.1 (by omega) (va_up_self _ _ _) (by decide) (by omega) (by decide) rfl ?_
                        refine w_iload_n (n := 192) O dX7_text_191 rfl rfl rfl ?_
                        refine w_iret O dX7_text_192 ?_
                        have hnb : noB Z = false := by cases z : noB Z with | false => rfl | true => (have := (noB_hw x2 x1.2.2.2.2.2).mp z; have := (dI_lt2 (by omega) (by omega)).mp c_8; omega)
                        have etx : tx bs ln = ((0, ln), l, Z) := by rw [et, hnb]; rfl
                        have hpT : pg0 s1 Z.1 := pg0_cong (pg_pz x1.1 x2 (by rw [← hz2]; exact hw_b x1.2.2.2.2.2 ((dI_lt2 (by omega) (by omega)).mp c_8))) (fun k2 hk2 => (hcp k2).trans (if_pos (by omega)))
                        have h49z : (va_up (va_up (va_up (va_up m3 (49) (.inr (7, [.ref (gb_ad G 50), .int (nI (rg1)), .ref (gb_ad G 51), .int (nI (rg1)), .int (bI (ia1)), .int (nI (ht1)), .int (nI (ad1)), .int (dI hw1), .ref (gb_ad G 52), .int (nI 0), .int (nI 0), .int (nI 0), .int (nI (ba)), .int (nI (tkE bs ln e)), .int (nI (tkB bs ln e)), .int (nI (tk)), .int (nI (va)), .ref (gb_ad G 53), .ref (gb_ad G 54), .int (Y 19), .int (Y 20), .int (Y 21), .int (Y 22), .ref (gb_ad G 55), .int (Y 24), .ref (gb_ad G 56), .int (Y 26), .ref (gb_ad G 57), .ref (gb_ad G 58), .ref (gb_ad G 59), .ref (gb_ad G 60), .int (Y 31)]))) (49) (.inr (7, [.ref (gb_ad G 50), .int (nI (rg1)), .ref (gb_ad G 51), .int (nI (rg1)), .int (bI (ia1)), .int (nI (ht1)), .int (nI (ad1)), .int (dI hw1), .ref (gb_ad G 52), .int (nI 0), .int (nI 0), .int (nI 0), .int (nI (ba)), .int (nI (tkE bs ln e)), .int (nI (tkB bs ln e)), .int (nI (tk)), .int (nI (va)), .ref (gb_ad G 53), .ref (gb_ad G 54), .int (Y 19), .int (Y 20), .int (Y 21), .int (Y 22), .ref (gb_ad G 55), .int (nI 0), .ref (gb_ad G 56), .int (Y 26), .ref (gb_ad G 57), .ref (gb_ad G 58), .ref (gb_ad G 59), .ref (gb_ad G 60), .int (Y 31)]))) (57) (ZB G 2 (fun k => if k = 0 then false else kp k))) (57) (ZB G 2 (fun k => if k = 1 then false else (fun k => if k = 0 then false else kp k) k))) 49 = (.inr (7, [.ref (gb_ad G 50), .int (nI (Z.1.2.2.2.1)), .ref (gb_ad G 51), .int (nI (rg1)), .int (bI (ia1)), .int (nI (ht1)), .int (nI (ad1)), .int (dI hw1), .ref (gb_ad G 52), .int (nI 0), .int (nI 0), .int (nI 0), .int (nI (ba)), .int (nI (tkE bs ln e)), .int (nI (tkB bs ln e)), .int (nI (tk)), .int (nI (va)), .ref (gb_ad G 53), .ref (gb_ad G 54), .int (nI 0), .int (nI 0), .int (oI none), .int (nI (tm)), .ref (gb_ad G 55), .int (nI 0), .ref (gb_ad G 56), .int (x26), .ref (gb_ad G 57), .ref (gb_ad G 58), .ref (gb_ad G 59), .ref (gb_ad G 60), .int (nI (tn))])) := (((va_up_ne _ _ (by decide)).trans ((va_up_ne _ _ (by decide)).trans (va_up_self _ _ _)))).trans (show ((.inr (7, [.ref (gb_ad G 50), .int (nI (rg1)), .ref (gb_ad G 51), .int (nI (rg1)), .int (bI (ia1)), .int (nI (ht1)), .int (nI (ad1)), .int (dI hw1), .ref (gb_ad G 52), .int (nI 0), .int (nI 0), .int (nI 0), .int (nI (ba)), .int (nI (tkE bs ln e)), .int (nI (tkB bs ln e)), .int (nI (tk)), .int (nI (va)), .ref (gb_ad G 53), .ref (gb_ad G 54), .int (Y 19), .int (Y 20), .int (Y 21), .int (Y 22), .ref (gb_ad G 55), .int (nI 0), .ref (gb_ad G 56), .int (Y 26), .ref (gb_ad G 57), .ref (gb_ad G 58), .ref (gb_ad G 59), .ref (gb_ad G 60), .int (Y 31)])) : va_E) = (.inr (7, [.ref (gb_ad G 50), .int (nI (Z.1.2.2.2.1)), .ref (gb_ad G 51), .int (nI (rg1)), .int (bI (ia1)), .int (nI (ht1)), .int (nI (ad1)), .int (dI hw1), .ref (gb_ad G 52), .int (nI 0), .int (nI 0), .int (nI 0), .int (nI (ba)), .int (nI (tkE bs ln e)), .int (nI (tkB bs ln e)), .int (nI (tk)), .int (nI (va)), .ref (gb_ad G 53), .ref (gb_ad G 54), .int (nI 0), .int (nI 0), .int (oI none), .int (nI (tm)), .ref (gb_ad G 55), .int (nI 0), .ref (gb_ad G 56), .int (x26), .ref (gb_ad G 57), .ref (gb_ad G 58), .ref (gb_ad G 59), .ref (gb_ad G 60), .int (nI (tn))])) by subst hY; rw [hz2]; rfl)
                        have e0 : a_text bs ln = (nI (l)) := by unfold a_text; rw [etx]; rfl
                        have e1 : s_txT T bs ln = Z.1 := by unfold s_txT; rw [etx]; rfl
                        have e2 : s_txK kp bs ln = upK (upK kp 0 false) 1 false := by unfold s_txK; rw [etx]; rfl
                        have e3 : s_txS sn bs ln = 0 := by unfold s_txS; rw [etx]; rfl
                        have e4 : (tx bs ln).1.1 = 0 := by rw [etx]
                        rw [e0, e1, e2, e3, e4] at hQ
                        try dsimp only at hQ
                        exact hQ ((va_up (va_up (va_up (va_up m3 (49) (.inr (7, [.ref (gb_ad G 50), .int (nI (rg1)), .ref (gb_ad G 51), .int (nI (rg1)), .int (bI (ia1)), .int (nI (ht1)), .int (nI (ad1)), .int (dI hw1), .ref (gb_ad G 52), .int (nI 0), .int (nI 0), .int (nI 0), .int (nI (ba)), .int (nI (tkE bs ln e)), .int (nI (tkB bs ln e)), .int (nI (tk)), .int (nI (va)), .ref (gb_ad G 53), .ref (gb_ad G 54), .int (Y 19), .int (Y 20), .int (Y 21), .int (Y 22), .ref (gb_ad G 55), .int (Y 24), .ref (gb_ad G 56), .int (Y 26), .ref (gb_ad G 57), .ref (gb_ad G 58), .ref (gb_ad G 59), .ref (gb_ad G 60), .int (Y 31)]))) (49) (.inr (7, [.ref (gb_ad G 50), .int (nI (rg1)), .ref (gb_ad G 51), .int (nI (rg1)), .int (bI (ia1)), .int (nI (ht1)), .int (nI (ad1)), .int (dI hw1), .ref (gb_ad G 52), .int (nI 0), .int (nI 0), .int (nI 0), .int (nI (ba)), .int (nI (tkE bs ln e)), .int (nI (tkB bs ln e)), .int (nI (tk)), .int (nI (va)), .ref (gb_ad G 53), .ref (gb_ad G 54), .int (Y 19), .int (Y 20), .int (Y 21), .int (Y 22), .ref (gb_ad G 55), .int (nI 0), .ref (gb_ad G 56), .int (Y 26), .ref (gb_ad G 57), .ref (gb_ad G 58), .ref (gb_ad G 59), .ref (gb_ad G 60), .int (Y 31)]))) (57) (ZB G 2 (fun k => if k = 0 then false else kp k))) (57) (ZB G 2 (fun k => if k = 1 then false else (fun k => if k = 0 then false else kp k) k)))) ⟨_, _, _, _, _, _, _, _, _, _, _, _, _, _, _, _, _, _, _, _, h49z, ((va_up_ne _ _ (by decide)).trans ((va_up_ne _ _ (by decide)).trans ((va_up_ne _ _ (by decide)).trans ((va_up_ne _ _ (by decide)).trans h503)))), ((va_up_ne _ _ (by decide)).trans ((va_up_ne _ _ (by decide)).trans ((va_up_ne _ _ (by decide)).trans ((va_up_ne _ _ (by decide)).trans ((hs3 (51) (by omega)).trans ((va_up_ne _ _ (by decide)).trans ((va_up_ne _ _ (by decide)).trans hRc.2.1))))))), ((va_up_ne _ _ (by decide)).trans ((va_up_ne _ _ (by decide)).trans ((va_up_ne _ _ (by decide)).trans ((va_up_ne _ _ (by decide)).trans ((hs3 (52) (by omega)).trans ((va_up_ne _ _ (by decide)).trans ((va_up_ne _ _ (by decide)).trans hRc.2.2.1))))))), ((va_up_ne _ _ (by decide)).trans ((va_up_ne _ _ (by decide)).trans ((va_up_ne _ _ (by decide)).trans ((va_up_ne _ _ (by decide)).trans ((hs3 (53) (by omega)).trans ((va_up_ne _ _ (by decide)).trans ((va_up_ne _ _ (by decide)).trans hRc.2.2.2.1))))))), ((va_up_ne _ _ (by decide)).trans ((va_up_ne _ _ (by decide)).trans ((va_up_ne _ _ (by decide)).trans ((va_up_ne _ _ (by decide)).trans ((hs3 (54) (by omega)).trans ((va_up_ne _ _ (by decide)).trans ((va_up_ne _ _ (by decide)).trans hRc.2.2.2.2))))))), ((va_up_ne _ _ (by decide)).trans ((va_up_ne _ _ (by decide)).trans ((va_up_ne _ _ (by decide)).trans ((va_up_ne _ _ (by decide)).trans ((hs3 (55) (by omega)).trans ((va_up_ne _ _ (by decide)).trans ((va_up_ne _ _ (by decide)).trans ((hs2 (55) (by omega) (by omega)).trans h55)))))))), ((va_up_ne _ _ (by decide)).trans ((va_up_ne _ _ (by decide)).trans ((va_up_ne _ _ (by decide)).trans ((va_up_ne _ _ (by decide)).trans ((hs3 (56) (by omega)).trans ((va_up_ne _ _ (by decide)).trans ((va_up_ne _ _ (by decide)).trans ((hs2 (56) (by omega) (by omega)).trans h56)))))))), (va_up_self _ _ _), ((va_up_ne _ _ (by decide)).trans ((va_up_ne _ _ (by decide)).trans ((va_up_ne _ _ (by decide)).trans ((va_up_ne _ _ (by decide)).trans ((hs3 (58) (by omega)).trans ((va_up_ne _ _ (by decide)).trans ((va_up_ne _ _ (by decide)).trans ((hs2 (58) (by omega) (by omega)).trans h58)))))))), ((va_up_ne _ _ (by decide)).trans ((va_up_ne _ _ (by decide)).trans ((va_up_ne _ _ (by decide)).trans ((va_up_ne _ _ (by decide)).trans ((hs3 (59) (by omega)).trans ((va_up_ne _ _ (by decide)).trans ((va_up_ne _ _ (by decide)).trans ((hs2 (59) (by omega) (by omega)).trans h59)))))))), ((va_up_ne _ _ (by decide)).trans ((va_up_ne _ _ (by decide)).trans ((va_up_ne _ _ (by decide)).trans ((va_up_ne _ _ (by decide)).trans ((hs3 (60) (by omega)).trans ((va_up_ne _ _ (by decide)).trans ((va_up_ne _ _ (by decide)).trans ((hs2 (60) (by omega) (by omega)).trans h60)))))))), htm, hpT, (fun k2 hk2 z => absurd z (by rcases (show k2 = 0 ∨ k2 = 1 by omega) with e9 | e9 <;> subst e9 <;> simp [upK])), (fun k2 hk2 => absurd hk2 (Nat.not_lt_zero k2)), hLa, hLe, hCe⟩ ((((((((sm.rf.tr (hs2.one (by omega))).up (by omega) (by omega)).up (by omega) (by omega)).tr (hs3.mono (by omega) (by omega))).up (by omega) (by omega)).up (by omega) (by omega)).up (by omega) (by omega)).up (by omega) (by omega))
                      · skip
                        refine w_aload_n (n := 147) O dX7_text_146 rfl rfl rfl ?_
                        refine w_getf (n := 150) O 0 dX7_text_147 (by omega) ((hs3 (49) (by omega)).trans (va_up_self _ _ _)) rfl (by decide) uX7 uf_X7_7 rfl rfl ?_
                        refine w_iload_n (n := 151) O dX7_text_150 rfl rfl rfl ?_
                        refine w_aload_n (n := 152) O dX7_text_151 rfl rfl rfl ?_
                        refine w_getf (n := 155) O 2 dX7_text_152 (by omega) ((hs3 (49) (by omega)).trans (va_up_self _ _ _)) rfl (by decide) uX7 uf_X7_13 rfl rfl ?_
                        refine w_iload_n (n := 156) O dX7_text_155 rfl rfl rfl ?_
                        refine w_ialdQ (n := 157) O dX7_text_156 hW.2.1 (by omega) ((hs3 (51) (by omega)).trans ((va_up_ne _ _ (by decide)).trans ((va_up_ne _ _ (by decide)).trans hRc.2.1))) (by omega) (by decide) rfl ?_
                        refine w_iastP (n := 158) (v := rp1 kc) O dX7_text_157 hW.2.1 (by omega) h503 (by omega) (by decide) (pgI_cv (by omega)) rfl ?_
                        refine w_iincN (n := 161) (lv' := [(2, .int (nI (kc + 1))), (0, .ref (gb_ad G 49)), (1, .int (nI (l)))]) O dX7_text_158 rfl (by decide) rfl rfl ?_
                        refine w_goto (tgt := 140) O dX7_text_161 (by decide) ?_
                        refine w_lv (lv2 := [(0, .ref (gb_ad G 49)), (1, .int (nI (l))), (2, .int (nI (kc + 1)))]) [1, 2, 0] rfl ?_
                        exact ih_T3 _ (by omega) (kc + 1) _ _ rfl (by omega) (fun k2 => by simp only [upN]; by_cases z : k2 = kc; (rw [if_pos z, if_pos (by omega), z]); (rw [if_neg z, hcp]; by_cases z2 : k2 < kc; (rw [if_pos z2, if_pos (by omega)]); (rw [if_neg z2, if_neg (by omega)]))) (va_up_self _ _ _) ((hs3.up (by omega) (by omega)))
                  refine w_lv (lv2 := [(0, .ref (gb_ad G 49)), (1, .int (nI (l))), (2, .int (nI 0))]) [1, 2, 0] rfl ?_
                  exact T3 _ 0 s _ rfl (Nat.zero_le _) (fun k2 => (if_neg (Nat.not_lt_zero k2)).symm) ((va_up_ne _ _ (by decide)).trans ((va_up_ne _ _ (by decide)).trans ((hs2 (50) (by omega) (by omega)).trans h50))) sm.rf
                · skip
                  refine w_aload_n (n := 105) O dX7_text_104 rfl rfl rfl ?_
                  refine w_bipush (n := 107) O dX7_text_105 (v := (nI 6)) (by decide) rfl ?_
                  refine w_cV (n := 110) (ro := none) (R := fun mM' => isR G mM' Y bs rp1 ln rg1 ia1 ht1 ad1 hw1 6 (tkB bs ln e) (tkE bs ln e) (tkB bs ln e) tk va ∧ sm m2 mM' 49 49) (st := []) (st1 := []) (As := [.int (nI 6)]) (b := 49) O dX7_text_107 ul_X7_87 um_X7_fails (f_X7_fails hW ⟨hRc.1, hRc.2.1, hRc.2.2.1, hRc.2.2.2.1, hRc.2.2.2.2⟩ hln hbs (fun M' h1 h2 => ⟨rfl, h1, h2⟩)) rfl (by omega) hRc.1 rfl rfl rfl rfl (by omega) (Nat.le_of_ble_eq_true rfl) rfl (fun mhM_11 hM_11 => ?_)
                  obtain ⟨hRhM_11, hshM_11⟩ := hM_11
                  refine w_aload_n (n := 111) O dX7_text_110 rfl rfl rfl ?_
                  refine w_iconst (n := 112) O dX7_text_111 (v := (nI 0)) (by decide) rfl ?_
                  refine w_putf (n := 115) (fs' := [.ref (gb_ad G 50), .int (Y 1), .ref (gb_ad G 51), .int (nI (rg1)), .int (bI (ia1)), .int (nI (ht1)), .int (nI (ad1)), .int (dI hw1), .ref (gb_ad G 52), .int (nI 0), .int (Y 10), .int (nI 6), .int (nI (tkB bs ln e)), .int (nI (tkE bs ln e)), .int (nI (tkB bs ln e)), .int (nI (tk)), .int (nI (va)), .ref (gb_ad G 53), .ref (gb_ad G 54), .int (Y 19), .int (Y 20), .int (Y 21), .int (Y 22), .ref (gb_ad G 55), .int (Y 24), .ref (gb_ad G 56), .int (Y 26), .ref (gb_ad G 57), .ref (gb_ad G 58), .ref (gb_ad G 59), .ref (gb_ad G 60), .int (Y 31)]) O 9 dX7_text_112 (by omega) hRhM_11.1 rfl (by decide) uX7 uf_X7_54 tyX7 tyX7_ok nmX7 rfl rfl rfl (Nat.le_of_ble_eq_true rfl) rfl rfl ?_
                  refine w_aload_n (n := 116) O dX7_text_115 rfl rfl rfl ?_
                  refine w_aload_n (n := 117) O dX7_text_116 rfl rfl rfl ?_
                  refine w_getf (n := 120) O 11 dX7_text_117 (by omega) (va_up_self _ _ _) rfl (by decide) uX7 uf_X7_57 rfl rfl ?_
                  refine w_putf (n := 123) (fs' := [.ref (gb_ad G 50), .int (Y 1), .ref (gb_ad G 51), .int (nI (rg1)), .int (bI (ia1)), .int (nI (ht1)), .int (nI (ad1)), .int (dI hw1), .ref (gb_ad G 52), .int (nI 0), .int (nI 6), .int (nI 6), .int (nI (tkB bs ln e)), .int (nI (tkE bs ln e)), .int (nI (tkB bs ln e)), .int (nI (tk)), .int (nI (va)), .ref (gb_ad G 53), .ref (gb_ad G 54), .int (Y 19), .int (Y 20), .int (Y 21), .int (Y 22), .ref (gb_ad G 55), .int (Y 24), .ref (gb_ad G 56), .int (Y 26), .ref (gb_ad G 57), .ref (gb_ad G 58), .ref (gb_ad G 59), .ref (gb_ad G 60), .int (Y 31)]) O 10 dX7_text_120 (by omega) (va_up_self _ _ _) rfl (by decide) uX7 uf_X7_133 tyX7 tyX7_ok nmX7 rfl rfl rfl (Nat.le_of_ble_eq_true rfl) rfl rfl ?_
                  refine w_aload_n (n := 124) O dX7_text_123 rfl rfl rfl ?_
                  refine w_getf (n := 127) O 11 dX7_text_124 (by omega) (va_up_self _ _ _) rfl (by decide) uX7 uf_X7_57 rfl rfl ?_
                  refine w_if_leN (n := 130) (tgt := 138) O dX7_text_127 (by omega) (by decide) rfl (fun c_12 => by omega) (fun c_12 => ?_)
                  refine w_bipush (n := 132) O dX7_text_130 (v := (-10)) (by decide) rfl ?_
                  refine w_aload_n (n := 133) O dX7_text_132 rfl rfl rfl ?_
                  refine w_getf (n := 136) O 12 dX7_text_133 (by omega) (va_up_self _ _ _) rfl (by decide) uX7 uf_X7_63 rfl rfl ?_
                  refine w_isub (n := 137) O dX7_text_136 rfl ?_
                  refine w_iret O dX7_text_137 ?_
                  have etx : (tx bs ln).1 = (6, tkB bs ln e) := by rw [et, if_pos ((noB_hw x2 x1.2.2.2.2.2).mpr (by have z := mt (dI_lt2 (by omega) (by omega)).mpr c_8; omega)), eB]
                  have h49z : (va_up (va_up mhM_11 (49) (.inr (7, [.ref (gb_ad G 50), .int (Y 1), .ref (gb_ad G 51), .int (nI (rg1)), .int (bI (ia1)), .int (nI (ht1)), .int (nI (ad1)), .int (dI hw1), .ref (gb_ad G 52), .int (nI 0), .int (Y 10), .int (nI 6), .int (nI (tkB bs ln e)), .int (nI (tkE bs ln e)), .int (nI (tkB bs ln e)), .int (nI (tk)), .int (nI (va)), .ref (gb_ad G 53), .ref (gb_ad G 54), .int (Y 19), .int (Y 20), .int (Y 21), .int (Y 22), .ref (gb_ad G 55), .int (Y 24), .ref (gb_ad G 56), .int (Y 26), .ref (gb_ad G 57), .ref (gb_ad G 58), .ref (gb_ad G 59), .ref (gb_ad G 60), .int (Y 31)]))) (49) (.inr (7, [.ref (gb_ad G 50), .int (Y 1), .ref (gb_ad G 51), .int (nI (rg1)), .int (bI (ia1)), .int (nI (ht1)), .int (nI (ad1)), .int (dI hw1), .ref (gb_ad G 52), .int (nI 0), .int (nI 6), .int (nI 6), .int (nI (tkB bs ln e)), .int (nI (tkE bs ln e)), .int (nI (tkB bs ln e)), .int (nI (tk)), .int (nI (va)), .ref (gb_ad G 53), .ref (gb_ad G 54), .int (Y 19), .int (Y 20), .int (Y 21), .int (Y 22), .ref (gb_ad G 55), .int (Y 24), .ref (gb_ad G 56), .int (Y 26), .ref (gb_ad G 57), .ref (gb_ad G 58), .ref (gb_ad G 59), .ref (gb_ad G 60), .int (Y 31)]))) 49 = (.inr (7, [.ref (gb_ad G 50), .int (nI (T.2.2.2.1)), .ref (gb_ad G 51), .int (nI (rg1)), .int (bI (ia1)), .int (nI (ht1)), .int (nI (ad1)), .int (dI hw1), .ref (gb_ad G 52), .int (nI 0), .int (nI 6), .int (nI 6), .int (nI (tkB bs ln e)), .int (nI (tkE bs ln e)), .int (nI (tkB bs ln e)), .int (nI (tk)), .int (nI (va)), .ref (gb_ad G 53), .ref (gb_ad G 54), .int (nI 0), .int (nI 0), .int (oI none), .int (nI (tm)), .ref (gb_ad G 55), .int (nI (sn)), .ref (gb_ad G 56), .int (x26), .ref (gb_ad G 57), .ref (gb_ad G 58), .ref (gb_ad G 59), .ref (gb_ad G 60), .int (nI (tn))])) := ((va_up_self _ _ _)).trans (show ((.inr (7, [.ref (gb_ad G 50), .int (Y 1), .ref (gb_ad G 51), .int (nI (rg1)), .int (bI (ia1)), .int (nI (ht1)), .int (nI (ad1)), .int (dI hw1), .ref (gb_ad G 52), .int (nI 0), .int (nI 6), .int (nI 6), .int (nI (tkB bs ln e)), .int (nI (tkE bs ln e)), .int (nI (tkB bs ln e)), .int (nI (tk)), .int (nI (va)), .ref (gb_ad G 53), .ref (gb_ad G 54), .int (Y 19), .int (Y 20), .int (Y 21), .int (Y 22), .ref (gb_ad G 55), .int (Y 24), .ref (gb_ad G 56), .int (Y 26), .ref (gb_ad G 57), .ref (gb_ad G 58), .ref (gb_ad G 59), .ref (gb_ad G 60), .int (Y 31)])) : va_E) = (.inr (7, [.ref (gb_ad G 50), .int (nI (T.2.2.2.1)), .ref (gb_ad G 51), .int (nI (rg1)), .int (bI (ia1)), .int (nI (ht1)), .int (nI (ad1)), .int (dI hw1), .ref (gb_ad G 52), .int (nI 0), .int (nI 6), .int (nI 6), .int (nI (tkB bs ln e)), .int (nI (tkE bs ln e)), .int (nI (tkB bs ln e)), .int (nI (tk)), .int (nI (va)), .ref (gb_ad G 53), .ref (gb_ad G 54), .int (nI 0), .int (nI 0), .int (oI none), .int (nI (tm)), .ref (gb_ad G 55), .int (nI (sn)), .ref (gb_ad G 56), .int (x26), .ref (gb_ad G 57), .ref (gb_ad G 58), .ref (gb_ad G 59), .ref (gb_ad G 60), .int (nI (tn))])) by subst hY; rfl)
                  have e0 : a_text bs ln = (((-10) - (nI (tkB bs ln e)))) := by unfold a_text; rw [if_neg (by rw [etx]; exact (show ¬ 6 = 0 by decide)), etx]
                  have e1 : s_txT T bs ln = T := if_neg (by rw [etx]; exact (show ¬ 6 = 0 by decide))
                  have e2 : s_txK kp bs ln = kp := if_neg (by rw [etx]; exact (show ¬ 6 = 0 by decide))
                  have e3 : s_txS sn bs ln = sn := if_neg (by rw [etx]; exact (show ¬ 6 = 0 by decide))
                  have e4 : (tx bs ln).1.1 = 6 := by rw [etx]
                  rw [e0, e1, e2, e3, e4] at hQ
                  try dsimp only at hQ
                  exact hQ ((va_up (va_up mhM_11 (49) (.inr (7, [.ref (gb_ad G 50), .int (Y 1), .ref (gb_ad G 51), .int (nI (rg1)), .int (bI (ia1)), .int (nI (ht1)), .int (nI (ad1)), .int (dI hw1), .ref (gb_ad G 52), .int (nI 0), .int (Y 10), .int (nI 6), .int (nI (tkB bs ln e)), .int (nI (tkE bs ln e)), .int (nI (tkB bs ln e)), .int (nI (tk)), .int (nI (va)), .ref (gb_ad G 53), .ref (gb_ad G 54), .int (Y 19), .int (Y 20), .int (Y 21), .int (Y 22), .ref (gb_ad G 55), .int (Y 24), .ref (gb_ad G 56), .int (Y 26), .ref (gb_ad G 57), .ref (gb_ad G 58), .ref (gb_ad G 59), .ref (gb_ad G 60), .int (Y 31)]))) (49) (.inr (7, [.ref (gb_ad G 50), .int (Y 1), .ref (gb_ad G 51), .int (nI (rg1)), .int (bI (ia1)), .int (nI (ht1)), .int (nI (ad1)), .int (dI hw1), .ref (gb_ad G 52), .int (nI 0), .int (nI 6), .int (nI 6), .int (nI (tkB bs ln e)), .int (nI (tkE bs ln e)), .int (nI (tkB bs ln e)), .int (nI (tk)), .int (nI (va)), .ref (gb_ad G 53), .ref (gb_ad G 54), .int (Y 19), .int (Y 20), .int (Y 21), .int (Y 22), .ref (gb_ad G 55), .int (Y 24), .ref (gb_ad G 56), .int (Y 26), .ref (gb_ad G 57), .ref (gb_ad G 58), .ref (gb_ad G 59), .ref (gb_ad G 60), .int (Y 31)])))) ⟨_, _, _, _, _, _, _, _, _, _, _, _, _, _, _, _, _, _, _, _, h49z, ((va_up_ne _ _ (by decide)).trans ((va_up_ne _ _ (by decide)).trans ((hshM_11 (50) (by omega)).trans ((hs2 (50) (by omega) (by omega)).trans h50)))), ((va_up_ne _ _ (by decide)).trans ((va_up_ne _ _ (by decide)).trans hRhM_11.2.1)), ((va_up_ne _ _ (by decide)).trans ((va_up_ne _ _ (by decide)).trans hRhM_11.2.2.1)), ((va_up_ne _ _ (by decide)).trans ((va_up_ne _ _ (by decide)).trans hRhM_11.2.2.2.1)), ((va_up_ne _ _ (by decide)).trans ((va_up_ne _ _ (by decide)).trans hRhM_11.2.2.2.2)), ((va_up_ne _ _ (by decide)).trans ((va_up_ne _ _ (by decide)).trans ((hshM_11 (55) (by omega)).trans ((hs2 (55) (by omega) (by omega)).trans h55)))), ((va_up_ne _ _ (by decide)).trans ((va_up_ne _ _ (by decide)).trans ((hshM_11 (56) (by omega)).trans ((hs2 (56) (by omega) (by omega)).trans h56)))), ((va_up_ne _ _ (by decide)).trans ((va_up_ne _ _ (by decide)).trans ((hshM_11 (57) (by omega)).trans ((hs2 (57) (by omega) (by omega)).trans h57)))), ((va_up_ne _ _ (by decide)).trans ((va_up_ne _ _ (by decide)).trans ((hshM_11 (58) (by omega)).trans ((hs2 (58) (by omega) (by omega)).trans h58)))), ((va_up_ne _ _ (by decide)).trans ((va_up_ne _ _ (by decide)).trans ((hshM_11 (59) (by omega)).trans ((hs2 (59) (by omega) (by omega)).trans h59)))), ((va_up_ne _ _ (by decide)).trans ((va_up_ne _ _ (by decide)).trans ((hshM_11 (60) (by omega)).trans ((hs2 (60) (by omega) (by omega)).trans h60)))), htm, hpg, hIm, hSe, hLa, hLe, hCe⟩ ((((sm.rf.tr (hs2.one (by omega))).tr (hshM_11.mono (by omega) (by omega))).up (by omega) (by omega)).up (by omega) (by omega))
              · skip
                obtain ⟨q1, q2, q3, q4⟩ := hl7 c_3
                subst q1
                subst q2
                have hRc := hR
                rw [c_3] at hRc
                obtain ⟨x1, x2, x3z, x4z⟩ := htx.1 c_3
                have gtk := tkS_le bs ln e
                have gE := tkE_gt (bs := bs) (ln := ln) (p := e) (by omega)
                have gE2 := tkE_le (bs := bs) hel
                refine w_aload_n (n := 77) O dX7_text_76 rfl rfl rfl ?_
                refine w_cV (n := 80) (ro := none) (R := fun mM' => ∃ q1 q2 q3 q4 q5 q6, PM G mM' Y bs q1 ln q2 q3 q4 q5 q6 (orF (fLin bs ln Z (tkS bs ln e) (tkB bs ln e) (tkE bs ln e)) (aTB bs ln (eLin bs ln (tkS bs ln e) (tkB bs ln e) (tkE bs ln e)))) (eLin bs ln (tkS bs ln e) (tkB bs ln e) (tkE bs ln e)) ∧ ((fLin bs ln Z (tkS bs ln e) (tkB bs ln e) (tkE bs ln e)).1 = 0 → ZR q1 q2 q3 q4 q5 q6 (uLin bs ln Z (tkS bs ln e) (tkB bs ln e) (tkE bs ln e))) ∧ sm2 m2 mM' 49 49 51 51) (st := []) (st1 := []) (As := []) (b := 49) O dX7_text_77 ul_X7_130 um_X7_readLine (f_X7_readLine hW ⟨hRc.1, hRc.2.1, hRc.2.2.1, hRc.2.2.2.1, hRc.2.2.2.2⟩ hln hbs hel (by omega) q4 (by omega) x1 x2 (fun M' q1 q2 q3 q4 q5 q6 h1 h2 h3 => ⟨rfl, q1, q2, q3, q4, q5, q6, h1, h2, h3⟩)) rfl (by omega) hRc.1 rfl rfl rfl rfl (by omega) (Nat.le_of_ble_eq_true rfl) rfl (fun mhM_13 hM_13 => ?_)
                obtain ⟨rphM_13, rghM_13, iahM_13, hthM_13, adhM_13, hwhM_13, hPhM_13, hZhM_13, hshM_13⟩ := hM_13
                refine w_iincN (n := 83) (lv' := [(1, .int (nI (l + 1))), (0, .ref (gb_ad G 49))]) O dX7_text_80 rfl (by decide) rfl rfl ?_
                refine w_goto (tgt := 62) O dX7_text_83 (by decide) ?_
                refine w_lv (lv2 := [(0, .ref (gb_ad G 49)), (1, .int (nI (l + 1)))]) [1, 0] rfl ?_
                exact ih_T2 _ (by omega) (l + 1) _ _ _ _ _ _ _ _ _ _ rfl (by omega) hPhM_13 (txI_s hln hel htx c_3 (by omega) (by omega) hZhM_13) ((sm2.rf.tr hs2).tr hshM_13)
        refine w_lv (lv2 := [(0, .ref (gb_ad G 49)), (1, .int (nI 0))]) [0, 1] rfl ?_
        exact T2 _ 0 _ _ _ _ _ _ _ _ _ _ rfl (Nat.zero_le _) ⟨_, _, _, _, _, ⟨hRhM_2.1, hRhM_2.2.1, hRhM_2.2.2.1, hRhM_2.2.2.2.1, hRhM_2.2.2.2.2⟩, hLhM_2, he9hM_2⟩ txI_0 (((sm2.rf.tr hs1).up (by omega)).tr (sm.l hshM_2))
      · skip
        refine w_aload_n (n := 46) O dX7_text_45 rfl rfl rfl ?_
        refine w_getf (n := 49) O 2 dX7_text_46 (by omega) h491 rfl (by decide) uX7 uf_X7_13 rfl rfl ?_
        refine w_iload_n (n := 50) O dX7_text_49 rfl rfl rfl ?_
        refine w_iconst (n := 51) O dX7_text_50 (v := (nI 0)) (by decide) rfl ?_
        refine w_iastA (n := 52) O dX7_text_51 hW.2.1 (by omega) h511 (by omega) (by decide) rfl ?_
        refine w_iincN (n := 55) (lv' := [(2, .int (nI (kz + 1))), (0, .ref (gb_ad G 49)), (1, .int (nI 0))]) O dX7_text_52 rfl (by decide) rfl rfl ?_
        refine w_goto (tgt := 39) O dX7_text_55 (by decide) ?_
        refine w_lv (lv2 := [(0, .ref (gb_ad G 49)), (1, .int (nI 0)), (2, .int (nI (kz + 1)))]) [1, 2, 0] rfl ?_
        exact ih_T1 _ (by omega) (kz + 1) _ _ rfl (by omega) (fun k2 hk2 => by unfold upd; split; rfl; exact hr1 k2 (by omega)) ((va_up_ne _ _ (by decide)).trans h491) (va_up_self _ _ _) ((sm2.rf.tr hs1).up (by omega))
  refine w_lv (lv2 := [(0, .ref (gb_ad G 49)), (1, .int (nI 0)), (2, .int (nI 0))]) [2, 1, 0] rfl ?_
  exact T1 _ 0 rp _ rfl (Nat.zero_le _) (fun k2 hk2 => absurd hk2 (Nat.not_lt_zero k2)) (va_up_self _ _ _) ((va_up_ne _ _ (by decide)).trans ((va_up_ne _ _ (by decide)).trans ((va_up_ne _ _ (by decide)).trans ((va_up_ne _ _ (by decide)).trans ((va_up_ne _ _ (by decide)).trans ((va_up_ne _ _ (by decide)).trans ((va_up_ne _ _ (by decide)).trans h51))))))) (((((((sm2.rf.up (by omega)).up (by omega)).up (by omega)).up (by omega)).up (by omega)).up (by omega)).up (by omega))
