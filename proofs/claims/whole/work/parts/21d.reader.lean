def pgZ (rp : Nat → Nat) (Z : Sc) : Prop := (∀ g, g < 4 → rp g = Z.1.1 (g * 6 + 0) ∧ rp (4 + g) = Z.1.1 (g * 6 + 1) ∧ rp (8 + g) = Z.1.1 (g * 6 + 2) ∧ rp (12 + g) = Z.1.1 (g * 6 + 3) ∧ rp (16 + g) = Z.1.1 (g * 6 + 5) ∧ Z.1.1 (g * 6 + 4) = if hasB Z.2.1 g = true then 1 else 0) ∧ rp 20 = Z.2.1 ∧ (∀ m, m < 3 → rp (21 + m) = Z.1.2.1 m ∧ rp (27 + m) = Z.1.2.2.1 m) ∧ rp 24 = Z.1.2.2.2.2.1 ∧ rp 25 = Z.1.2.2.2.2.2.1 ∧ rp 26 = Z.1.2.2.2.2.2.2
def hwOk (hw t : Nat) : Prop := hw ≤ 4 ∧ t < 2 ^ hw ∧ (0 < hw → 2 ^ (hw - 1) ≤ t)
def ZR (rp : Nat → Nat) (rg : Nat) (ia : Bool) (ht ad hw : Nat) (Z : Sc) : Prop := pgZ rp Z ∧ rg = Z.1.2.2.2.1 ∧ ia = Z.2.2.2.2 ∧ ht = Z.2.2.1 ∧ ad = Z.2.2.2.1 ∧ hwOk hw (Z.2.1 ||| Z.2.2.1)
theorem pz_kd {rp : Nat → Nat} {Z : Sc} {g v : Nat} (h : pgZ rp Z) (hg : g < 4) : pgZ (upN rp g v) ((upN Z.1.1 (g * 6 + 0) v, Z.1.2), Z.2) := by
  obtain ⟨h1, h2, h3, h4, h5, h6⟩ := h
  refine ⟨fun q hq => ?_, ?_, fun m hm => ?_, ?_, ?_, ?_⟩
  · have := h1 q hq
    simp only [upN]
    refine ⟨?_, ?_, ?_, ?_, ?_, ?_⟩
    · split <;> split <;> omega
    · split <;> split <;> omega
    · split <;> split <;> omega
    · split <;> split <;> omega
    · split <;> split <;> omega
    · rw [if_neg (by omega)]; exact this.2.2.2.2.2
  · rw [upN_ne _ _ (by omega)]; exact h2
  · rw [upN_ne _ _ (by omega), upN_ne _ _ (by omega)]; exact h3 m hm
  · rw [upN_ne _ _ (by omega)]; exact h4
  · rw [upN_ne _ _ (by omega)]; exact h5
  · rw [upN_ne _ _ (by omega)]; exact h6
theorem pz_gu {rp : Nat → Nat} {Z : Sc} {g v : Nat} (h : pgZ rp Z) (hg : g < 4) : pgZ (upN rp (4 + g) v) ((upN Z.1.1 (g * 6 + 1) v, Z.1.2), Z.2) := by
  obtain ⟨h1, h2, h3, h4, h5, h6⟩ := h
  refine ⟨fun q hq => ?_, ?_, fun m hm => ?_, ?_, ?_, ?_⟩
  · have := h1 q hq
    simp only [upN]
    refine ⟨?_, ?_, ?_, ?_, ?_, ?_⟩
    · split <;> split <;> omega
    · split <;> split <;> omega
    · split <;> split <;> omega
    · split <;> split <;> omega
    · split <;> split <;> omega
    · rw [if_neg (by omega)]; exact this.2.2.2.2.2
  · rw [upN_ne _ _ (by omega)]; exact h2
  · rw [upN_ne _ _ (by omega), upN_ne _ _ (by omega)]; exact h3 m hm
  · rw [upN_ne _ _ (by omega)]; exact h4
  · rw [upN_ne _ _ (by omega)]; exact h5
  · rw [upN_ne _ _ (by omega)]; exact h6
theorem pz_me {rp : Nat → Nat} {Z : Sc} {g v : Nat} (h : pgZ rp Z) (hg : g < 4) : pgZ (upN rp (8 + g) v) ((upN Z.1.1 (g * 6 + 2) v, Z.1.2), Z.2) := by
  obtain ⟨h1, h2, h3, h4, h5, h6⟩ := h
  refine ⟨fun q hq => ?_, ?_, fun m hm => ?_, ?_, ?_, ?_⟩
  · have := h1 q hq
    simp only [upN]
    refine ⟨?_, ?_, ?_, ?_, ?_, ?_⟩
    · split <;> split <;> omega
    · split <;> split <;> omega
    · split <;> split <;> omega
    · split <;> split <;> omega
    · split <;> split <;> omega
    · rw [if_neg (by omega)]; exact this.2.2.2.2.2
  · rw [upN_ne _ _ (by omega)]; exact h2
  · rw [upN_ne _ _ (by omega), upN_ne _ _ (by omega)]; exact h3 m hm
  · rw [upN_ne _ _ (by omega)]; exact h4
  · rw [upN_ne _ _ (by omega)]; exact h5
  · rw [upN_ne _ _ (by omega)]; exact h6
theorem pz_de {rp : Nat → Nat} {Z : Sc} {g v : Nat} (h : pgZ rp Z) (hg : g < 4) : pgZ (upN rp (12 + g) v) ((upN Z.1.1 (g * 6 + 3) v, Z.1.2), Z.2) := by
  obtain ⟨h1, h2, h3, h4, h5, h6⟩ := h
  refine ⟨fun q hq => ?_, ?_, fun m hm => ?_, ?_, ?_, ?_⟩
  · have := h1 q hq
    simp only [upN]
    refine ⟨?_, ?_, ?_, ?_, ?_, ?_⟩
    · split <;> split <;> omega
    · split <;> split <;> omega
    · split <;> split <;> omega
    · split <;> split <;> omega
    · split <;> split <;> omega
    · rw [if_neg (by omega)]; exact this.2.2.2.2.2
  · rw [upN_ne _ _ (by omega)]; exact h2
  · rw [upN_ne _ _ (by omega), upN_ne _ _ (by omega)]; exact h3 m hm
  · rw [upN_ne _ _ (by omega)]; exact h4
  · rw [upN_ne _ _ (by omega)]; exact h5
  · rw [upN_ne _ _ (by omega)]; exact h6
theorem pz_ho {rp : Nat → Nat} {Z : Sc} {g v : Nat} (h : pgZ rp Z) (hg : g < 4) : pgZ (upN rp (16 + g) v) ((upN Z.1.1 (g * 6 + 5) v, Z.1.2), Z.2) := by
  obtain ⟨h1, h2, h3, h4, h5, h6⟩ := h
  refine ⟨fun q hq => ?_, ?_, fun m hm => ?_, ?_, ?_, ?_⟩
  · have := h1 q hq
    simp only [upN]
    refine ⟨?_, ?_, ?_, ?_, ?_, ?_⟩
    · split <;> split <;> omega
    · split <;> split <;> omega
    · split <;> split <;> omega
    · split <;> split <;> omega
    · split <;> split <;> omega
    · rw [if_neg (by omega)]; exact this.2.2.2.2.2
  · rw [upN_ne _ _ (by omega)]; exact h2
  · rw [upN_ne _ _ (by omega), upN_ne _ _ (by omega)]; exact h3 m hm
  · rw [upN_ne _ _ (by omega)]; exact h4
  · rw [upN_ne _ _ (by omega)]; exact h5
  · rw [upN_ne _ _ (by omega)]; exact h6
theorem pz_ad {rp : Nat → Nat} {Z : Sc} {m v : Nat} (h : pgZ rp Z) (hm : m < 3) : pgZ (upN rp (21 + m) v) ((Z.1.1, upN Z.1.2.1 m v, Z.1.2.2), Z.2) := by
  obtain ⟨h1, h2, h3, h4, h5, h6⟩ := h
  refine ⟨fun q hq => ?_, ?_, fun k hk => ?_, ?_, ?_, ?_⟩
  · rw [upN_ne _ _ (by omega), upN_ne _ _ (by omega), upN_ne _ _ (by omega), upN_ne _ _ (by omega), upN_ne _ _ (by omega)]; exact h1 q hq
  · rw [upN_ne _ _ (by omega)]; exact h2
  · have := h3 k hk
    simp only [upN]
    refine ⟨?_, ?_⟩
    · split <;> split <;> omega
    · split <;> omega
  · rw [upN_ne _ _ (by omega)]; exact h4
  · rw [upN_ne _ _ (by omega)]; exact h5
  · rw [upN_ne _ _ (by omega)]; exact h6
theorem pz_ask {rp : Nat → Nat} {Z : Sc} {a b : Nat} (h : pgZ rp Z) : pgZ (upN (upN rp 24 a) 25 b) ((Z.1.1, Z.1.2.1, Z.1.2.2.1, Z.1.2.2.2.1, a, b, Z.1.2.2.2.2.2.2), Z.2) := by
  obtain ⟨h1, h2, h3, h4, h5, h6⟩ := h
  have z : ∀ k, ¬ k = 24 → ¬ k = 25 → upN (upN rp 24 a) 25 b k = rp k := fun k q1 q2 => (upN_ne _ _ q2).trans (upN_ne _ _ q1)
  refine ⟨fun q hq => ?_, ?_, fun k hk => ?_, ?_, ?_, ?_⟩
  · rw [z q (by omega) (by omega), z (4 + q) (by omega) (by omega), z (8 + q) (by omega) (by omega), z (12 + q) (by omega) (by omega), z (16 + q) (by omega) (by omega)]; exact h1 q hq
  · rw [z 20 (by decide) (by decide)]; exact h2
  · rw [z (21 + k) (by omega) (by omega), z (27 + k) (by omega) (by omega)]; exact h3 k hk
  · rw [upN_ne _ _ (by decide), upN_self]
  · rw [upN_self]
  · rw [z 26 (by decide) (by decide)]; exact h6
theorem tel_has : ∀ b, b < 16 → ∀ v, v < 4 → ∀ g, g < 4 → hasB (tel b v) g = (decide (g = v) || hasB b g) := by decide +kernel
theorem tel_orN : ∀ b, b < 16 → ∀ v, v < 4 → b ||| 2 ^ v = tel b v := by decide +kernel
theorem pz_so {rp : Nat → Nat} {Z : Sc} {v : Nat} (h : pgZ rp Z) (hb : Z.2.1 < 16) (hv : v < 4) : pgZ (upN rp 20 (tel Z.2.1 v)) ((upN Z.1.1 (v * 6 + 4) 1, Z.1.2), tel Z.2.1 v, Z.2.2) := by
  obtain ⟨h1, h2, h3, h4, h5, h6⟩ := h
  refine ⟨fun q hq => ?_, ?_, fun k hk => ?_, ?_, ?_, ?_⟩
  · have := h1 q hq
    rw [upN_ne _ _ (by omega), upN_ne _ _ (by omega), upN_ne _ _ (by omega), upN_ne _ _ (by omega), upN_ne _ _ (by omega)]
    refine ⟨this.1.trans (upN_ne _ _ (by omega)).symm, this.2.1.trans (upN_ne _ _ (by omega)).symm, this.2.2.1.trans (upN_ne _ _ (by omega)).symm, this.2.2.2.1.trans (upN_ne _ _ (by omega)).symm, this.2.2.2.2.1.trans (upN_ne _ _ (by omega)).symm, ?_⟩
    show upN Z.1.1 (v * 6 + 4) 1 (q * 6 + 4) = if hasB (tel Z.2.1 v) q = true then 1 else 0
    rw [tel_has _ hb v hv q hq]
    by_cases e : q = v
    · subst e; rw [upN_self, decide_eq_true rfl]; rfl
    · rw [upN_ne _ _ (by omega), decide_eq_false e, Bool.false_or]; exact this.2.2.2.2.2
  · rw [upN_self]
  · rw [upN_ne _ _ (by omega), upN_ne _ _ (by omega)]; exact h3 k hk
  · rw [upN_ne _ _ (by omega)]; exact h4
  · rw [upN_ne _ _ (by omega)]; exact h5
  · rw [upN_ne _ _ (by omega)]; exact h6
def hwB (hw t : Nat) : Bool := decide (hw ≤ 4) && decide (t < 2 ^ hw) && (decide (hw = 0) || decide (2 ^ (hw - 1) ≤ t))
theorem hwB_ok {hw t : Nat} : hwB hw t = true ↔ hwOk hw t := by
  unfold hwB hwOk
  simp only [Bool.and_eq_true, Bool.or_eq_true, decide_eq_true_eq]
  constructor
  · intro h; exact ⟨h.1.1, h.1.2, fun z => h.2.elim (fun w => by omega) id⟩
  · intro h; exact ⟨⟨h.1, h.2.1⟩, by rcases Nat.eq_zero_or_pos hw with z | z; exact Or.inl z; exact Or.inr (h.2.2 z)⟩
theorem hw_up1 : ∀ b, b < 16 → ∀ c, c < 16 → ∀ v, v < 4 → ∀ hw, hw < 5 → (!hwB hw (b ||| c) || hwB (hwN hw v) (tel b v ||| c)) = true := by decide +kernel
theorem hwOk_1 {b c v hw : Nat} (hb : b < 16) (hc : c < 16) (hv : v < 4) (h : hwOk hw (b ||| c)) : hwOk (hwN hw v) (tel b v ||| c) := by
  have z := hw_up1 b hb c hc v hv hw (by have := h.1; omega)
  rw [hwB_ok.mpr h] at z
  exact hwB_ok.mp (by simpa using z)
theorem hwOk_2 {b c v hw : Nat} (hb : b < 16) (hc : c < 16) (hv : v < 4) (h : hwOk hw (b ||| c)) : hwOk (hwN hw v) (b ||| tel c v) := by
  rw [Nat.or_comm] at h ⊢
  exact hwOk_1 hc hb hv h
theorem cO_0 (bs : Nat → Nat) (ln lo hi e : Nat) : cO bs ln lo hi 0 e = aN bs ln lo hi e := by
  unfold cO tlC
  rw [show hasB 0 (tkV bs ln e) = false by simp [hasB]]
  by_cases h : aN bs ln lo hi e = 0
  · rw [if_pos h, h]; rfl
  · rw [if_neg h]
theorem cM_0 (bs : Nat → Nat) (ln last e : Nat) : cM bs ln last 0 e = aM bs ln last e := by
  unfold cM tlC
  rw [show hasB 0 (mAt bs ln e) = false by simp [hasB]]
  by_cases h : aM bs ln last e = 0
  · rw [if_pos h, h]; rfl
  · rw [if_neg h]
theorem orF_as (x y z : Nat × Nat) : orF (orF x y) z = orF x (orF y z) := by
  unfold orF
  by_cases h : x.1 = 0
  · rw [if_pos h, if_pos h]
  · rw [if_neg h, if_neg h, if_neg h]
theorem aT_1 {bs : Nat → Nat} {ln p : Nat} (h : ¬ aT bs ln p = 0) : aT bs ln p = 1 ∧ tkS bs ln p = 0 := by
  unfold aT at h ⊢
  by_cases z : tkS bs ln p = 0
  · rw [if_pos z]; exact ⟨rfl, z⟩
  · rw [if_neg z] at h; exact absurd rfl h
theorem abs1 {bs : Nat → Nat} {ln p c : Nat} (hc : tkS bs ln p = 0 → c = 1) (x : Nat × Nat) : orF (aTB bs ln p) (orF (c, tkB bs ln p) x) = orF (c, tkB bs ln p) x := by
  by_cases h : aT bs ln p = 0
  · exact orF_0 (x := aTB bs ln p) h
  · obtain ⟨h1, h2⟩ := aT_1 h
    rw [orF_n (x := aTB bs ln p) h, hc h2, orF_n (x := (1, tkB bs ln p)) (show ¬ 1 = 0 by decide)]
    unfold aTB
    rw [h1]
theorem aN_1 {bs : Nat → Nat} {ln lo hi p : Nat} (h : tkS bs ln p = 0) : aN bs ln lo hi p = 1 := if_pos h
theorem aM_1 {bs : Nat → Nat} {ln last p : Nat} (h : tkS bs ln p = 0) : aM bs ln last p = 1 := if_pos h
theorem cO_1 {bs : Nat → Nat} {ln lo hi so p : Nat} (h : tkS bs ln p = 0) : cO bs ln lo hi so p = 1 := by
  unfold cO; rw [aN_1 h]; rfl
theorem cM_1 {bs : Nat → Nat} {ln last so p : Nat} (h : tkS bs ln p = 0) : cM bs ln last so p = 1 := by
  unfold cM; rw [aM_1 h]; rfl
theorem oF_go {bs : Nat → Nat} {ln : Nat} {x : Nat × Nat} {p c : Nat} (hc : tkS bs ln p = 0 → c = 1) : oF bs ln (orF x (aTB bs ln p)) c p = orF (orF x (c, tkB bs ln p)) (aTB bs ln (tkE bs ln p)) := by
  unfold oF
  rw [orF_as, abs1 hc, orF_as]
theorem oF_st {bs : Nat → Nat} {ln : Nat} {F : Nat × Nat} {p c : Nat} (hF : F.1 = 0) : oF bs ln F c p = orF (c, tkB bs ln p) (aTB bs ln (tkE bs ln p)) := orF_0 hF
theorem oF_z {bs : Nat → Nat} {ln : Nat} {F : Nat × Nat} {c p : Nat} (h : (oF bs ln F c p).1 = 0) : F.1 = 0 ∧ c = 0 := ⟨(orF_z h).1, (orF_z (orF_z h).2).1⟩
theorem rO_ok {bs : Nat → Nat} {ln : Nat} {F : Nat × Nat} {lo hi so e : Nat} (h1 : F.1 = 0) (h2 : cO bs ln lo hi so e = 0) : rO bs ln F lo hi so e = tkV bs ln e := if_pos ⟨h1, h2⟩
theorem rM_ok {bs : Nat → Nat} {ln : Nat} {F : Nat × Nat} {last so e : Nat} (h : (oF bs ln F (cM bs ln last so e) e).1 = 0) : rM bs ln F last so e = mAt bs ln e := if_pos h
theorem cO_h {bs : Nat → Nat} {ln lo hi so e : Nat} (h : cO bs ln lo hi so e = 0) : hasB so (tkV bs ln e) = false := by
  have h0 := tlC_z h
  unfold cO tlC at h
  rw [if_pos h0] at h
  by_cases z : hasB so (tkV bs ln e) = true
  · rw [if_pos z] at h; exact absurd h (by decide)
  · exact Bool.eq_false_iff.mpr z
set_option maxRecDepth 100000 in
set_option maxHeartbeats 4000000 in
theorem f_X7_rmK {G : gb_G} (hW : gW G) {Q : Option Value → gb_M → Prop} {mM : gb_M} {Y : Nat → Int32} {bs rp : Nat → Nat} {ln rg : Nat} {ia : Bool} {ht ad hw : Nat} {F : Nat × Nat} {e : Nat} (hP : PM G mM Y bs rp ln rg ia ht ad hw F e) (hln : ln ≤ 160) (hbs : ∀ k, k < ln → bs k ≤ 127) (hF : F.1 = 0) {Z : Sc} (hZ : ZR rp rg ia ht ad hw Z) (hok : okZ Z) {n : Nat} (hn : n ≤ 3) (hrg : rg < 4)  (hQ : ∀ M' rp' rg' ht' ad' hw', PM G M' Y bs (rp') ln (rg') ia (ht') (ad') (hw') (orF (orF (aM bs ln 3 e, tkB bs ln e) (orF (aN bs ln 0 9 (tkE bs ln e), tkB bs ln (tkE bs ln e)) (aN bs ln 0 3 (tkE bs ln (tkE bs ln e)), tkB bs ln (tkE bs ln (tkE bs ln e))))) (aTB bs ln (tkE bs ln (tkE bs ln (tkE bs ln e))))) (tkE bs ln (tkE bs ln (tkE bs ln e))) → ((orF (orF (aM bs ln 3 e, tkB bs ln e) (orF (aN bs ln 0 9 (tkE bs ln e), tkB bs ln (tkE bs ln e)) (aN bs ln 0 3 (tkE bs ln (tkE bs ln e)), tkB bs ln (tkE bs ln (tkE bs ln e))))) (aTB bs ln (tkE bs ln (tkE bs ln (tkE bs ln e))))).1 = 0 → ZR rp' rg' ia ht' ad' hw' (uGiv bs ln Z n e)) → sm2 mM M' 49 49 51 51 → Q none M') : Fn G 4 yX7_readMore cX7_readMore 3 none [.ref (gb_ad G 49), .int (nI (n))] mM Q := by
  obtain ⟨ba, sp, he, tk, va, hR, hL, hel⟩ := id hP
  obtain ⟨hz1, hz2, hz3, hz4, hz5, hz6⟩ := hZ
  obtain ⟨hk1, hk2, hk3, hk4, hk5⟩ := id hok
  have hh4 := hz6.1
  have h20 : rp 20 < 16 := by rw [hz1.2.1]; exact hk3
  have hgv4 := hk1.1
  have hN := hW.2.2.1
  refine Fn.of hW.1 [(0, .ref (gb_ad G 49)), (1, .int (nI (n)))] (by decide) (Nat.le_of_ble_eq_true rfl) rfl ?_
  intro X O
  refine w_iload_n (n := 1) O dX7_readMore_0 rfl rfl rfl ?_
  refine w_iconst (n := 2) O dX7_readMore_1 (v := (nI 3)) (by decide) rfl ?_
  refine w_icmp_gtN (n := 5) (tgt := 84) O dX7_readMore_2 (by omega) (by omega) (by decide) rfl (fun c_1 => absurd c_1 (by omega)) (fun c_1 => ?_)
  refine w_aload_n (n := 6) O dX7_readMore_5 rfl rfl rfl ?_
  refine w_getf (n := 9) O 2 dX7_readMore_6 (by omega) hR.1 rfl (by decide) uX7 uf_X7_13 rfl rfl ?_
  refine w_aload_n (n := 10) O dX7_readMore_9 rfl rfl rfl ?_
  refine w_getf (n := 13) O 3 dX7_readMore_10 (by omega) hR.1 rfl (by decide) uX7 uf_X7_105 rfl rfl ?_
  refine w_iload_n (n := 14) O dX7_readMore_13 rfl rfl rfl ?_
  refine w_iastP (n := 15) (v := n) O dX7_readMore_14 hW.2.1 (by omega) hR.2.1 (by omega) (by decide) (pgI_nv (by omega)) rfl ?_
  refine w_aload_n (n := 16) O dX7_readMore_15 rfl rfl rfl ?_
  refine w_getf (n := 19) O 2 dX7_readMore_16 (by omega) ((va_up_ne _ _ (by decide)).trans hR.1) rfl (by decide) uX7 uf_X7_13 rfl rfl ?_
  refine w_bipush (n := 21) O dX7_readMore_19 (v := (nI 8)) (by decide) rfl ?_
  refine w_aload_n (n := 22) O dX7_readMore_21 rfl rfl rfl ?_
  refine w_getf (n := 25) O 3 dX7_readMore_22 (by omega) ((va_up_ne _ _ (by decide)).trans hR.1) rfl (by decide) uX7 uf_X7_105 rfl rfl ?_
  refine w_iaddN (n := 26) O dX7_readMore_25 rfl ?_
  refine w_aload_n (n := 27) O dX7_readMore_26 rfl rfl rfl ?_
  refine w_iconst (n := 28) O dX7_readMore_27 (v := (nI 3)) (by decide) rfl ?_
  refine w_iconst (n := 29) O dX7_readMore_28 (v := (nI 0)) (by decide) rfl ?_
  refine w_cV (n := 32) (ro := some (.int (nI (rM bs ln F 3 0 e)))) (R := fun mM' => PM G mM' Y bs (upN rp rg n) ln rg ia ht ad hw (oF bs ln F (cM bs ln 3 0 e) e) (tkE bs ln e) ∧ sm (va_up mM (51) (IA G 30 (pgI (upN rp rg n)))) mM' 49 49) (st := [.int (nI ((8 + rg))), .ref (gb_ad G 51)]) (st1 := [.int (nI (rM bs ln F 3 0 e)), .int (nI ((8 + rg))), .ref (gb_ad G 51)]) (As := [.int (nI 3), .int (nI 0)]) (b := 49) O dX7_readMore_29 ul_X7_108 um_X7_metalHere (f_X7_metalHere hW ⟨_, _, _, _, _, ⟨((va_up_ne _ _ (by decide)).trans hR.1), (va_up_self _ _ _), ((va_up_ne _ _ (by decide)).trans hR.2.2.1), ((va_up_ne _ _ (by decide)).trans hR.2.2.2.1), ((va_up_ne _ _ (by decide)).trans hR.2.2.2.2)⟩, hL, hel⟩ hln hbs (by omega) (by omega) (fun M' h1 h2 => ⟨rfl, h1, h2⟩)) rfl (by omega) ((va_up_ne _ _ (by decide)).trans hR.1) rfl rfl rfl rfl (by omega) (Nat.le_of_ble_eq_true rfl) rfl (fun mhM_2 hM_2 => ?_)
  obtain ⟨⟨bahM_2, sphM_2, hehM_2, tkhM_2, vahM_2, hRhM_2, hLhM_2, he9hM_2⟩, hshM_2⟩ := hM_2
  obtain ⟨hl1hM_2, hl2hM_2, hl3hM_2, hl4hM_2, hl5hM_2, hl6hM_2, hl7hM_2⟩ := id hLhM_2
  have hrhM_2 := rM_le (bs := bs) (ln := ln) (F := F) (last := 3) (so := 0) (e := e)
  refine w_iastP (n := 33) (v := rM bs ln F 3 0 e) O dX7_readMore_32 hW.2.1 (by omega) hRhM_2.2.1 (by omega) (by decide) (pgI_nv (by omega)) rfl ?_
  refine w_aload_n (n := 34) O dX7_readMore_33 rfl rfl rfl ?_
  refine w_getf (n := 37) O 2 dX7_readMore_34 (by omega) ((va_up_ne _ _ (by decide)).trans hRhM_2.1) rfl (by decide) uX7 uf_X7_13 rfl rfl ?_
  refine w_iconst (n := 38) O dX7_readMore_37 (v := (nI 4)) (by decide) rfl ?_
  refine w_aload_n (n := 39) O dX7_readMore_38 rfl rfl rfl ?_
  refine w_getf (n := 42) O 3 dX7_readMore_39 (by omega) ((va_up_ne _ _ (by decide)).trans hRhM_2.1) rfl (by decide) uX7 uf_X7_105 rfl rfl ?_
  refine w_iaddN (n := 43) O dX7_readMore_42 rfl ?_
  refine w_aload_n (n := 44) O dX7_readMore_43 rfl rfl rfl ?_
  refine w_iconst (n := 45) O dX7_readMore_44 (v := (nI 0)) (by decide) rfl ?_
  refine w_bipush (n := 47) O dX7_readMore_45 (v := (nI 9)) (by decide) rfl ?_
  refine w_iconst (n := 48) O dX7_readMore_47 (v := (nI 0)) (by decide) rfl ?_
  refine w_cV (n := 51) (ro := some (.int (nI (rO bs ln (oF bs ln F (cM bs ln 3 0 e) e) 0 9 0 (tkE bs ln e))))) (R := fun mM' => PM G mM' Y bs (upN (upN rp rg n) (8 + rg) (rM bs ln F 3 0 e)) ln rg ia ht ad hw (oF bs ln (oF bs ln F (cM bs ln 3 0 e) e) (cO bs ln 0 9 0 (tkE bs ln e)) (tkE bs ln e)) (tkE bs ln (tkE bs ln e)) ∧ sm (va_up mhM_2 (51) (IA G 30 (pgI (upN (upN rp rg n) (8 + rg) (rM bs ln F 3 0 e))))) mM' 49 49) (st := [.int (nI ((4 + rg))), .ref (gb_ad G 51)]) (st1 := [.int (nI (rO bs ln (oF bs ln F (cM bs ln 3 0 e) e) 0 9 0 (tkE bs ln e))), .int (nI ((4 + rg))), .ref (gb_ad G 51)]) (As := [.int (nI 0), .int (nI 9), .int (nI 0)]) (b := 49) O dX7_readMore_48 ul_X7_94 um_X7_other (f_X7_other hW ⟨_, _, _, _, _, ⟨((va_up_ne _ _ (by decide)).trans hRhM_2.1), (va_up_self _ _ _), ((va_up_ne _ _ (by decide)).trans hRhM_2.2.2.1), ((va_up_ne _ _ (by decide)).trans hRhM_2.2.2.2.1), ((va_up_ne _ _ (by decide)).trans hRhM_2.2.2.2.2)⟩, hLhM_2, he9hM_2⟩ hln hbs (by omega) (by omega) (by omega) (fun z => by omega) (fun M' h1 h2 => ⟨rfl, h1, h2⟩)) rfl (by omega) ((va_up_ne _ _ (by decide)).trans hRhM_2.1) rfl rfl rfl rfl (by omega) (Nat.le_of_ble_eq_true rfl) rfl (fun mhM_3 hM_3 => ?_)
  obtain ⟨⟨bahM_3, sphM_3, hehM_3, tkhM_3, vahM_3, hRhM_3, hLhM_3, he9hM_3⟩, hshM_3⟩ := hM_3
  obtain ⟨hl1hM_3, hl2hM_3, hl3hM_3, hl4hM_3, hl5hM_3, hl6hM_3, hl7hM_3⟩ := id hLhM_3
  have hrhM_3 := rO_le (bs := bs) (ln := ln) (F := oF bs ln F (cM bs ln 3 0 e) e) (lo := 0) (hi := 9) (so := 0) (e := tkE bs ln e) (by decide)
  refine w_iastP (n := 52) (v := rO bs ln (oF bs ln F (cM bs ln 3 0 e) e) 0 9 0 (tkE bs ln e)) O dX7_readMore_51 hW.2.1 (by omega) hRhM_3.2.1 (by omega) (by decide) (pgI_nv (by omega)) rfl ?_
  refine w_aload_n (n := 53) O dX7_readMore_52 rfl rfl rfl ?_
  refine w_getf (n := 56) O 2 dX7_readMore_53 (by omega) ((va_up_ne _ _ (by decide)).trans hRhM_3.1) rfl (by decide) uX7 uf_X7_13 rfl rfl ?_
  refine w_bipush (n := 58) O dX7_readMore_56 (v := (nI 12)) (by decide) rfl ?_
  refine w_aload_n (n := 59) O dX7_readMore_58 rfl rfl rfl ?_
  refine w_getf (n := 62) O 3 dX7_readMore_59 (by omega) ((va_up_ne _ _ (by decide)).trans hRhM_3.1) rfl (by decide) uX7 uf_X7_105 rfl rfl ?_
  refine w_iaddN (n := 63) O dX7_readMore_62 rfl ?_
  refine w_aload_n (n := 64) O dX7_readMore_63 rfl rfl rfl ?_
  refine w_iconst (n := 65) O dX7_readMore_64 (v := (nI 0)) (by decide) rfl ?_
  refine w_iconst (n := 66) O dX7_readMore_65 (v := (nI 3)) (by decide) rfl ?_
  refine w_iconst (n := 67) O dX7_readMore_66 (v := (nI 0)) (by decide) rfl ?_
  refine w_cV (n := 70) (ro := some (.int (nI (rO bs ln (oF bs ln (oF bs ln F (cM bs ln 3 0 e) e) (cO bs ln 0 9 0 (tkE bs ln e)) (tkE bs ln e)) 0 3 0 (tkE bs ln (tkE bs ln e)))))) (R := fun mM' => PM G mM' Y bs (upN (upN (upN rp rg n) (8 + rg) (rM bs ln F 3 0 e)) (4 + rg) (rO bs ln (oF bs ln F (cM bs ln 3 0 e) e) 0 9 0 (tkE bs ln e))) ln rg ia ht ad hw (oF bs ln (oF bs ln (oF bs ln F (cM bs ln 3 0 e) e) (cO bs ln 0 9 0 (tkE bs ln e)) (tkE bs ln e)) (cO bs ln 0 3 0 (tkE bs ln (tkE bs ln e))) (tkE bs ln (tkE bs ln e))) (tkE bs ln (tkE bs ln (tkE bs ln e))) ∧ sm (va_up mhM_3 (51) (IA G 30 (pgI (upN (upN (upN rp rg n) (8 + rg) (rM bs ln F 3 0 e)) (4 + rg) (rO bs ln (oF bs ln F (cM bs ln 3 0 e) e) 0 9 0 (tkE bs ln e)))))) mM' 49 49) (st := [.int (nI ((12 + rg))), .ref (gb_ad G 51)]) (st1 := [.int (nI (rO bs ln (oF bs ln (oF bs ln F (cM bs ln 3 0 e) e) (cO bs ln 0 9 0 (tkE bs ln e)) (tkE bs ln e)) 0 3 0 (tkE bs ln (tkE bs ln e)))), .int (nI ((12 + rg))), .ref (gb_ad G 51)]) (As := [.int (nI 0), .int (nI 3), .int (nI 0)]) (b := 49) O dX7_readMore_67 ul_X7_94 um_X7_other (f_X7_other hW ⟨_, _, _, _, _, ⟨((va_up_ne _ _ (by decide)).trans hRhM_3.1), (va_up_self _ _ _), ((va_up_ne _ _ (by decide)).trans hRhM_3.2.2.1), ((va_up_ne _ _ (by decide)).trans hRhM_3.2.2.2.1), ((va_up_ne _ _ (by decide)).trans hRhM_3.2.2.2.2)⟩, hLhM_3, he9hM_3⟩ hln hbs (by omega) (by omega) (by omega) (fun z => by omega) (fun M' h1 h2 => ⟨rfl, h1, h2⟩)) rfl (by omega) ((va_up_ne _ _ (by decide)).trans hRhM_3.1) rfl rfl rfl rfl (by omega) (Nat.le_of_ble_eq_true rfl) rfl (fun mhM_4 hM_4 => ?_)
  obtain ⟨⟨bahM_4, sphM_4, hehM_4, tkhM_4, vahM_4, hRhM_4, hLhM_4, he9hM_4⟩, hshM_4⟩ := hM_4
  obtain ⟨hl1hM_4, hl2hM_4, hl3hM_4, hl4hM_4, hl5hM_4, hl6hM_4, hl7hM_4⟩ := id hLhM_4
  have hrhM_4 := rO_le (bs := bs) (ln := ln) (F := oF bs ln (oF bs ln F (cM bs ln 3 0 e) e) (cO bs ln 0 9 0 (tkE bs ln e)) (tkE bs ln e)) (lo := 0) (hi := 3) (so := 0) (e := tkE bs ln (tkE bs ln e)) (by decide)
  refine w_iastP (n := 71) (v := rO bs ln (oF bs ln (oF bs ln F (cM bs ln 3 0 e) e) (cO bs ln 0 9 0 (tkE bs ln e)) (tkE bs ln e)) 0 3 0 (tkE bs ln (tkE bs ln e))) O dX7_readMore_70 hW.2.1 (by omega) hRhM_4.2.1 (by omega) (by decide) (pgI_nv (by omega)) rfl ?_
  refine w_aload_n (n := 72) O dX7_readMore_71 rfl rfl rfl ?_
  refine w_dup (n := 73) O dX7_readMore_72 rfl rfl ?_
  refine w_getf (n := 76) O 3 dX7_readMore_73 (by omega) ((va_up_ne _ _ (by decide)).trans hRhM_4.1) rfl (by decide) uX7 uf_X7_105 rfl rfl ?_
  refine w_iconst (n := 77) O dX7_readMore_76 (v := (nI 1)) (by decide) rfl ?_
  refine w_iaddN (n := 78) O dX7_readMore_77 rfl ?_
  refine w_putf (n := 81) (fs' := [.ref (gb_ad G 50), .int (Y 1), .ref (gb_ad G 51), .int (nI ((rg + 1))), .int (bI (ia)), .int (nI (ht)), .int (nI (ad)), .int (dI hw), .ref (gb_ad G 52), .int (nI (ln)), .int (Y 10), .int (nI ((oF bs ln (oF bs ln (oF bs ln F (cM bs ln 3 0 e) e) (cO bs ln 0 9 0 (tkE bs ln e)) (tkE bs ln e)) (cO bs ln 0 3 0 (tkE bs ln (tkE bs ln e))) (tkE bs ln (tkE bs ln e))).1)), .int (nI (bahM_4)), .int (nI (sphM_4)), .int (nI (hehM_4)), .int (nI (tkhM_4)), .int (nI (vahM_4)), .ref (gb_ad G 53), .ref (gb_ad G 54), .int (Y 19), .int (Y 20), .int (Y 21), .int (Y 22), .ref (gb_ad G 55), .int (Y 24), .ref (gb_ad G 56), .int (Y 26), .ref (gb_ad G 57), .ref (gb_ad G 58), .ref (gb_ad G 59), .ref (gb_ad G 60), .int (Y 31)]) O 3 dX7_readMore_78 (by omega) ((va_up_ne _ _ (by decide)).trans hRhM_4.1) rfl (by decide) uX7 uf_X7_105 tyX7 tyX7_ok nmX7 rfl rfl rfl (Nat.le_of_ble_eq_true rfl) rfl rfl ?_
  refine w_goto (tgt := 242) O dX7_readMore_81 (by decide) ?_
  refine w_vret O dX7_readMore_242 ?_
  have eF : oF bs ln (oF bs ln (oF bs ln F (cM bs ln 3 0 e) e) (cO bs ln 0 9 0 (tkE bs ln e)) (tkE bs ln e)) (cO bs ln 0 3 0 (tkE bs ln (tkE bs ln e))) (tkE bs ln (tkE bs ln e)) = orF (orF (aM bs ln 3 e, tkB bs ln e) (orF (aN bs ln 0 9 (tkE bs ln e), tkB bs ln (tkE bs ln e)) (aN bs ln 0 3 (tkE bs ln (tkE bs ln e)), tkB bs ln (tkE bs ln (tkE bs ln e))))) (aTB bs ln (tkE bs ln (tkE bs ln (tkE bs ln e)))) := by rw [oF_st hF, cM_0, cO_0, cO_0]; rw [oF_go (x := (aM bs ln 3 e, tkB bs ln e)) (fun z => aN_1 z), oF_go (x := orF (aM bs ln 3 e, tkB bs ln e) (aN bs ln 0 9 (tkE bs ln e), tkB bs ln (tkE bs ln e))) (fun z => aN_1 z), orF_as (aM bs ln 3 e, tkB bs ln e)]
  exact hQ _ _ _ _ _ _ (by rw [← eF]; exact ⟨_, _, _, _, _, ⟨(va_up_self _ _ _), ((va_up_ne _ _ (by decide)).trans (va_up_self _ _ _)), ((va_up_ne _ _ (by decide)).trans ((va_up_ne _ _ (by decide)).trans hRhM_4.2.2.1)), ((va_up_ne _ _ (by decide)).trans ((va_up_ne _ _ (by decide)).trans hRhM_4.2.2.2.1)), ((va_up_ne _ _ (by decide)).trans ((va_up_ne _ _ (by decide)).trans hRhM_4.2.2.2.2))⟩, hLhM_4, he9hM_4⟩) (fun z9 => by rw [← eF] at z9; obtain ⟨z2, z3⟩ := oF_z z9; obtain ⟨z4, z5⟩ := oF_z z2; have er1 := rM_ok z4; have er2 := rO_ok z4 z5; have er3 := rO_ok z2 z3; have ea := aM_0 (tlC_z (oF_z z4).2); have eb := aN_0 (tlC_z z5); have ec := aN_0 (tlC_z z3); rw [er1, er2, er3]; have hp1 := pz_de (g := rg) (v := tkV bs ln (tkE bs ln (tkE bs ln e))) (pz_gu (g := rg) (v := tkV bs ln (tkE bs ln e)) (pz_me (g := rg) (v := mAt bs ln e) (pz_kd (g := rg) (v := n) hz1 hrg) hrg) hrg) hrg; rw [hz2] at hp1 ⊢; exact ⟨hp1, rfl, hz3, hz4, hz5, hz6⟩) ((((((((sm2.rf.up (by omega)).tr (sm.l hshM_2)).up (by omega)).tr (sm.l hshM_3)).up (by omega)).tr (sm.l hshM_4)).up (by omega)).up (by omega))
set_option maxRecDepth 100000 in
set_option maxHeartbeats 4000000 in
theorem f_X7_rmS {G : gb_G} (hW : gW G) {Q : Option Value → gb_M → Prop} {mM : gb_M} {Y : Nat → Int32} {bs rp : Nat → Nat} {ln rg : Nat} {ia : Bool} {ht ad hw : Nat} {F : Nat × Nat} {e : Nat} (hP : PM G mM Y bs rp ln rg ia ht ad hw F e) (hln : ln ≤ 160) (hbs : ∀ k, k < ln → bs k ≤ 127) (hF : F.1 = 0) {Z : Sc} (hZ : ZR rp rg ia ht ad hw Z) (hok : okZ Z)  (hQ : ∀ M' rp' rg' ht' ad' hw', PM G M' Y bs (rp') ln (rg') ia (ht') (ad') (hw') (orF (fSor bs ln Z e) (aTB bs ln (tkE bs ln e))) (tkE bs ln e) → ((orF (fSor bs ln Z e) (aTB bs ln (tkE bs ln e))).1 = 0 → ZR rp' rg' ia ht' ad' hw' (uSor bs ln Z e)) → sm2 mM M' 49 49 51 51 → Q none M') : Fn G 4 yX7_readMore cX7_readMore 3 none [.ref (gb_ad G 49), .int (nI 4)] mM Q := by
  obtain ⟨ba, sp, he, tk, va, hR, hL, hel⟩ := id hP
  obtain ⟨hz1, hz2, hz3, hz4, hz5, hz6⟩ := hZ
  obtain ⟨hk1, hk2, hk3, hk4, hk5⟩ := id hok
  have hh4 := hz6.1
  have h20 : rp 20 < 16 := by rw [hz1.2.1]; exact hk3
  have hgv4 := hk1.1
  have hN := hW.2.2.1
  refine Fn.of hW.1 [(0, .ref (gb_ad G 49)), (1, .int (nI 4))] (by decide) (Nat.le_of_ble_eq_true rfl) rfl ?_
  intro X O
  refine w_iload_n (n := 1) O dX7_readMore_0 rfl rfl rfl ?_
  refine w_iconst (n := 2) O dX7_readMore_1 (v := (nI 3)) (by decide) rfl ?_
  refine w_icmp_gtN (n := 5) (tgt := 84) O dX7_readMore_2 (by omega) (by omega) (by decide) rfl (fun c_1 => ?_) (fun c_1 => absurd c_1 (by decide))
  refine w_iload_n (n := 85) O dX7_readMore_84 rfl rfl rfl ?_
  refine w_iconst (n := 86) O dX7_readMore_85 (v := (nI 4)) (by decide) rfl ?_
  refine w_icmp_neN (n := 89) (tgt := 115) O dX7_readMore_86 (by omega) (by omega) (by decide) rfl (fun c_2 => absurd rfl c_2) (fun c_2 => ?_)
  refine w_aload_n (n := 90) O dX7_readMore_89 rfl rfl rfl ?_
  refine w_getf (n := 93) O 2 dX7_readMore_90 (by omega) hR.1 rfl (by decide) uX7 uf_X7_13 rfl rfl ?_
  refine w_bipush (n := 95) O dX7_readMore_93 (v := (nI 20)) (by decide) rfl ?_
  refine w_dup2 (n := 96) O dX7_readMore_95 rfl rfl rfl ?_
  refine w_ialdP (n := 97) (v := rp 20) O dX7_readMore_96 hW.2.1 (by omega) hR.2.1 (by omega) (by decide) (by omega) rfl rfl ?_
  refine w_iconst (n := 98) O dX7_readMore_97 (v := (nI 1)) (by decide) rfl ?_
  refine w_aload_n (n := 99) O dX7_readMore_98 rfl rfl rfl ?_
  refine w_aload_n (n := 100) O dX7_readMore_99 rfl rfl rfl ?_
  refine w_getf (n := 103) O 2 dX7_readMore_100 (by omega) hR.1 rfl (by decide) uX7 uf_X7_13 rfl rfl ?_
  refine w_bipush (n := 105) O dX7_readMore_103 (v := (nI 20)) (by decide) rfl ?_
  refine w_ialdP (n := 106) (v := rp 20) O dX7_readMore_105 hW.2.1 (by omega) hR.2.1 (by omega) (by decide) (by omega) rfl rfl ?_
  refine w_cV (n := 109) (ro := some (.int (nI (rO bs ln F 0 3 (rp 20) e)))) (R := fun mM' => PM G mM' Y bs rp ln rg ia ht ad (hwN hw (rO bs ln F 0 3 (rp 20) e)) (oF bs ln F (cO bs ln 0 3 (rp 20) e) e) (tkE bs ln e) ∧ sm mM mM' 49 49) (st := [.int (nI 1), .int (nI (rp 20)), .int (nI 20), .ref (gb_ad G 51)]) (st1 := [.int (nI (rO bs ln F 0 3 (rp 20) e)), .int (nI 1), .int (nI (rp 20)), .int (nI 20), .ref (gb_ad G 51)]) (As := [.int (nI (rp 20))]) (b := 49) O dX7_readMore_106 ul_X7_112 um_X7_giverHere (f_X7_giverHere hW ⟨_, _, _, _, _, ⟨hR.1, hR.2.1, hR.2.2.1, hR.2.2.2.1, hR.2.2.2.2⟩, hL, hel⟩ hln hbs (by omega) (by omega) (fun M' h1 h2 => ⟨rfl, h1, h2⟩)) rfl (by omega) hR.1 rfl rfl rfl rfl (by omega) (Nat.le_of_ble_eq_true rfl) rfl (fun mhM_3 hM_3 => ?_)
  obtain ⟨⟨bahM_3, sphM_3, hehM_3, tkhM_3, vahM_3, hRhM_3, hLhM_3, he9hM_3⟩, hshM_3⟩ := hM_3
  obtain ⟨hl1hM_3, hl2hM_3, hl3hM_3, hl4hM_3, hl5hM_3, hl6hM_3, hl7hM_3⟩ := id hLhM_3
  have hrhM_3 := rO_le (bs := bs) (ln := ln) (F := F) (lo := 0) (hi := 3) (so := rp 20) (e := e) (by decide)
  refine w_ishl (n := 110) O dX7_readMore_109 rfl ?_
  refine w_top (nI (2 ^ (rO bs ln F 0 3 (rp 20) e))) (shl1 (by omega)) ?_
  refine w_ior (n := 111) O dX7_readMore_110 rfl ?_
  refine w_top (nI ((rp 20) ||| (2 ^ (rO bs ln F 0 3 (rp 20) e)))) (nI_or _ _) ?_
  refine w_iastP (n := 112) (v := ((rp 20) ||| (2 ^ (rO bs ln F 0 3 (rp 20) e)))) O dX7_readMore_111 hW.2.1 (by omega) hRhM_3.2.1 (by omega) (by decide) (pgI_nv (by omega)) rfl ?_
  refine w_goto (tgt := 242) O dX7_readMore_112 (by decide) ?_
  refine w_vret O dX7_readMore_242 ?_
  have eF : oF bs ln F (cO bs ln 0 3 (rp 20) e) e = orF (fSor bs ln Z e) (aTB bs ln (tkE bs ln e)) := by rw [oF_st hF, hz1.2.1]; rfl
  exact hQ _ _ _ _ _ _ (by rw [← eF]; exact ⟨_, _, _, _, _, ⟨((va_up_ne _ _ (by decide)).trans hRhM_3.1), (va_up_self _ _ _), ((va_up_ne _ _ (by decide)).trans hRhM_3.2.2.1), ((va_up_ne _ _ (by decide)).trans hRhM_3.2.2.2.1), ((va_up_ne _ _ (by decide)).trans hRhM_3.2.2.2.2)⟩, hLhM_3, he9hM_3⟩) (fun z9 => by rw [← eF] at z9; obtain ⟨z2, z3⟩ := oF_z z9; have er := rO_ok hF z3; have hv3 := (aN_0 (tlC_z z3)).2.2; rw [er]; rw [hz1.2.1, tel_orN _ hk3 _ (by omega)]; exact ⟨pz_so hz1 hk3 (by omega), hz2, hz3, hz4, hz5, hwOk_1 hk3 hk4 (by omega) hz6⟩) ((sm2.rf.tr (sm.l hshM_3)).up (by omega))
set_option maxRecDepth 100000 in
set_option maxHeartbeats 4000000 in
theorem f_X7_rmH {G : gb_G} (hW : gW G) {Q : Option Value → gb_M → Prop} {mM : gb_M} {Y : Nat → Int32} {bs rp : Nat → Nat} {ln rg : Nat} {ia : Bool} {ht ad hw : Nat} {F : Nat × Nat} {e : Nat} (hP : PM G mM Y bs rp ln rg ia ht ad hw F e) (hln : ln ≤ 160) (hbs : ∀ k, k < ln → bs k ≤ 127) (hF : F.1 = 0) {Z : Sc} (hZ : ZR rp rg ia ht ad hw Z) (hok : okZ Z)  (hQ : ∀ M' rp' rg' ht' ad' hw', PM G M' Y bs (rp') ln (rg') ia (ht') (ad') (hw') (orF (fHol bs ln Z e) (aTB bs ln (tkE bs ln (tkE bs ln e)))) (tkE bs ln (tkE bs ln e)) → ((orF (fHol bs ln Z e) (aTB bs ln (tkE bs ln (tkE bs ln e)))).1 = 0 → ZR rp' rg' ia ht' ad' hw' (uHol bs ln Z e)) → sm2 mM M' 49 49 51 51 → Q none M') : Fn G 4 yX7_readMore cX7_readMore 3 none [.ref (gb_ad G 49), .int (nI 5)] mM Q := by
  obtain ⟨ba, sp, he, tk, va, hR, hL, hel⟩ := id hP
  obtain ⟨hz1, hz2, hz3, hz4, hz5, hz6⟩ := hZ
  obtain ⟨hk1, hk2, hk3, hk4, hk5⟩ := id hok
  have hh4 := hz6.1
  have h20 : rp 20 < 16 := by rw [hz1.2.1]; exact hk3
  have hgv4 := hk1.1
  have hN := hW.2.2.1
  refine Fn.of hW.1 [(0, .ref (gb_ad G 49)), (1, .int (nI 5))] (by decide) (Nat.le_of_ble_eq_true rfl) rfl ?_
  intro X O
  refine w_iload_n (n := 1) O dX7_readMore_0 rfl rfl rfl ?_
  refine w_iconst (n := 2) O dX7_readMore_1 (v := (nI 3)) (by decide) rfl ?_
  refine w_icmp_gtN (n := 5) (tgt := 84) O dX7_readMore_2 (by omega) (by omega) (by decide) rfl (fun c_1 => ?_) (fun c_1 => absurd c_1 (by decide))
  refine w_iload_n (n := 85) O dX7_readMore_84 rfl rfl rfl ?_
  refine w_iconst (n := 86) O dX7_readMore_85 (v := (nI 4)) (by decide) rfl ?_
  refine w_icmp_neN (n := 89) (tgt := 115) O dX7_readMore_86 (by omega) (by omega) (by decide) rfl (fun c_2 => ?_) (fun c_2 => absurd c_2 (by decide))
  refine w_iload_n (n := 116) O dX7_readMore_115 rfl rfl rfl ?_
  refine w_iconst (n := 117) O dX7_readMore_116 (v := (nI 5)) (by decide) rfl ?_
  refine w_icmp_neN (n := 120) (tgt := 161) O dX7_readMore_117 (by omega) (by omega) (by decide) rfl (fun c_3 => absurd rfl c_3) (fun c_3 => ?_)
  refine w_aload_n (n := 121) O dX7_readMore_120 rfl rfl rfl ?_
  refine w_aload_n (n := 122) O dX7_readMore_121 rfl rfl rfl ?_
  refine w_getf (n := 125) O 5 dX7_readMore_122 (by omega) hR.1 rfl (by decide) uX7 uf_X7_115 rfl rfl ?_
  refine w_cV (n := 128) (ro := some (.int (nI (rO bs ln F 0 3 ht e)))) (R := fun mM' => PM G mM' Y bs rp ln rg ia ht ad (hwN hw (rO bs ln F 0 3 ht e)) (oF bs ln F (cO bs ln 0 3 ht e) e) (tkE bs ln e) ∧ sm mM mM' 49 49) (st := []) (st1 := [.int (nI (rO bs ln F 0 3 ht e))]) (As := [.int (nI (ht))]) (b := 49) O dX7_readMore_125 ul_X7_112 um_X7_giverHere (f_X7_giverHere hW ⟨_, _, _, _, _, ⟨hR.1, hR.2.1, hR.2.2.1, hR.2.2.2.1, hR.2.2.2.2⟩, hL, hel⟩ hln hbs (by omega) (by omega) (fun M' h1 h2 => ⟨rfl, h1, h2⟩)) rfl (by omega) hR.1 rfl rfl rfl rfl (by omega) (Nat.le_of_ble_eq_true rfl) rfl (fun mhM_4 hM_4 => ?_)
  obtain ⟨⟨bahM_4, sphM_4, hehM_4, tkhM_4, vahM_4, hRhM_4, hLhM_4, he9hM_4⟩, hshM_4⟩ := hM_4
  obtain ⟨hl1hM_4, hl2hM_4, hl3hM_4, hl4hM_4, hl5hM_4, hl6hM_4, hl7hM_4⟩ := id hLhM_4
  have hrhM_4 := rO_le (bs := bs) (ln := ln) (F := F) (lo := 0) (hi := 3) (so := ht) (e := e) (by decide)
  refine w_istore_n (n := 129) (lv' := [(2, .int (nI (rO bs ln F 0 3 ht e))), (0, .ref (gb_ad G 49)), (1, .int (nI 5))]) O dX7_readMore_128 rfl (by decide) rfl rfl ?_
  refine w_aload_n (n := 130) O dX7_readMore_129 rfl rfl rfl ?_
  refine w_dup (n := 131) O dX7_readMore_130 rfl rfl ?_
  refine w_getf (n := 134) O 5 dX7_readMore_131 (by omega) hRhM_4.1 rfl (by decide) uX7 uf_X7_115 rfl rfl ?_
  refine w_iconst (n := 135) O dX7_readMore_134 (v := (nI 1)) (by decide) rfl ?_
  refine w_iload_n (n := 136) O dX7_readMore_135 rfl rfl rfl ?_
  refine w_ishl (n := 137) O dX7_readMore_136 rfl ?_
  refine w_top (nI (2 ^ (rO bs ln F 0 3 ht e))) (shl1 (by omega)) ?_
  refine w_ior (n := 138) O dX7_readMore_137 rfl ?_
  refine w_top (nI (ht ||| (2 ^ (rO bs ln F 0 3 ht e)))) (nI_or _ _) ?_
  refine w_putf (n := 141) (fs' := [.ref (gb_ad G 50), .int (Y 1), .ref (gb_ad G 51), .int (nI (rg)), .int (bI (ia)), .int (nI ((ht ||| (2 ^ (rO bs ln F 0 3 ht e))))), .int (nI (ad)), .int (dI (hwN hw (rO bs ln F 0 3 ht e))), .ref (gb_ad G 52), .int (nI (ln)), .int (Y 10), .int (nI ((oF bs ln F (cO bs ln 0 3 ht e) e).1)), .int (nI (bahM_4)), .int (nI (sphM_4)), .int (nI (hehM_4)), .int (nI (tkhM_4)), .int (nI (vahM_4)), .ref (gb_ad G 53), .ref (gb_ad G 54), .int (Y 19), .int (Y 20), .int (Y 21), .int (Y 22), .ref (gb_ad G 55), .int (Y 24), .ref (gb_ad G 56), .int (Y 26), .ref (gb_ad G 57), .ref (gb_ad G 58), .ref (gb_ad G 59), .ref (gb_ad G 60), .int (Y 31)]) O 5 dX7_readMore_138 (by omega) hRhM_4.1 rfl (by decide) uX7 uf_X7_115 tyX7 tyX7_ok nmX7 rfl rfl rfl (Nat.le_of_ble_eq_true rfl) rfl rfl ?_
  refine w_aload_n (n := 142) O dX7_readMore_141 rfl rfl rfl ?_
  refine w_getf (n := 145) O 2 dX7_readMore_142 (by omega) (va_up_self _ _ _) rfl (by decide) uX7 uf_X7_13 rfl rfl ?_
  refine w_bipush (n := 147) O dX7_readMore_145 (v := (nI 16)) (by decide) rfl ?_
  refine w_iload_n (n := 148) O dX7_readMore_147 rfl rfl rfl ?_
  refine w_iaddN (n := 149) O dX7_readMore_148 rfl ?_
  refine w_aload_n (n := 150) O dX7_readMore_149 rfl rfl rfl ?_
  refine w_iconst (n := 151) O dX7_readMore_150 (v := (nI 0)) (by decide) rfl ?_
  refine w_bipush (n := 153) O dX7_readMore_151 (v := (nI 9)) (by decide) rfl ?_
  refine w_iconst (n := 154) O dX7_readMore_153 (v := (nI 0)) (by decide) rfl ?_
  refine w_cV (n := 157) (ro := some (.int (nI (rO bs ln (oF bs ln F (cO bs ln 0 3 ht e) e) 0 9 0 (tkE bs ln e))))) (R := fun mM' => PM G mM' Y bs rp ln rg ia (ht ||| (2 ^ (rO bs ln F 0 3 ht e))) ad (hwN hw (rO bs ln F 0 3 ht e)) (oF bs ln (oF bs ln F (cO bs ln 0 3 ht e) e) (cO bs ln 0 9 0 (tkE bs ln e)) (tkE bs ln e)) (tkE bs ln (tkE bs ln e)) ∧ sm (va_up mhM_4 (49) (.inr (7, [.ref (gb_ad G 50), .int (Y 1), .ref (gb_ad G 51), .int (nI (rg)), .int (bI (ia)), .int (nI ((ht ||| (2 ^ (rO bs ln F 0 3 ht e))))), .int (nI (ad)), .int (dI (hwN hw (rO bs ln F 0 3 ht e))), .ref (gb_ad G 52), .int (nI (ln)), .int (Y 10), .int (nI ((oF bs ln F (cO bs ln 0 3 ht e) e).1)), .int (nI (bahM_4)), .int (nI (sphM_4)), .int (nI (hehM_4)), .int (nI (tkhM_4)), .int (nI (vahM_4)), .ref (gb_ad G 53), .ref (gb_ad G 54), .int (Y 19), .int (Y 20), .int (Y 21), .int (Y 22), .ref (gb_ad G 55), .int (Y 24), .ref (gb_ad G 56), .int (Y 26), .ref (gb_ad G 57), .ref (gb_ad G 58), .ref (gb_ad G 59), .ref (gb_ad G 60), .int (Y 31)]))) mM' 49 49) (st := [.int (nI ((16 + (rO bs ln F 0 3 ht e)))), .ref (gb_ad G 51)]) (st1 := [.int (nI (rO bs ln (oF bs ln F (cO bs ln 0 3 ht e) e) 0 9 0 (tkE bs ln e))), .int (nI ((16 + (rO bs ln F 0 3 ht e)))), .ref (gb_ad G 51)]) (As := [.int (nI 0), .int (nI 9), .int (nI 0)]) (b := 49) O dX7_readMore_154 ul_X7_94 um_X7_other (f_X7_other hW ⟨_, _, _, _, _, ⟨(va_up_self _ _ _), ((va_up_ne _ _ (by decide)).trans hRhM_4.2.1), ((va_up_ne _ _ (by decide)).trans hRhM_4.2.2.1), ((va_up_ne _ _ (by decide)).trans hRhM_4.2.2.2.1), ((va_up_ne _ _ (by decide)).trans hRhM_4.2.2.2.2)⟩, hLhM_4, he9hM_4⟩ hln hbs (by omega) (by omega) (by omega) (fun z => by omega) (fun M' h1 h2 => ⟨rfl, h1, h2⟩)) rfl (by omega) (va_up_self _ _ _) rfl rfl rfl rfl (by omega) (Nat.le_of_ble_eq_true rfl) rfl (fun mhM_5 hM_5 => ?_)
  obtain ⟨⟨bahM_5, sphM_5, hehM_5, tkhM_5, vahM_5, hRhM_5, hLhM_5, he9hM_5⟩, hshM_5⟩ := hM_5
  obtain ⟨hl1hM_5, hl2hM_5, hl3hM_5, hl4hM_5, hl5hM_5, hl6hM_5, hl7hM_5⟩ := id hLhM_5
  have hrhM_5 := rO_le (bs := bs) (ln := ln) (F := oF bs ln F (cO bs ln 0 3 ht e) e) (lo := 0) (hi := 9) (so := 0) (e := tkE bs ln e) (by decide)
  refine w_iastP (n := 158) (v := rO bs ln (oF bs ln F (cO bs ln 0 3 ht e) e) 0 9 0 (tkE bs ln e)) O dX7_readMore_157 hW.2.1 (by omega) hRhM_5.2.1 (by omega) (by decide) (pgI_nv (by omega)) rfl ?_
  refine w_goto (tgt := 242) O dX7_readMore_158 (by decide) ?_
  refine w_vret O dX7_readMore_242 ?_
  have eF : oF bs ln (oF bs ln F (cO bs ln 0 3 ht e) e) (cO bs ln 0 9 0 (tkE bs ln e)) (tkE bs ln e) = orF (fHol bs ln Z e) (aTB bs ln (tkE bs ln (tkE bs ln e))) := by rw [oF_st hF, cO_0]; rw [oF_go (x := (cO bs ln 0 3 ht e, tkB bs ln e)) (fun z => aN_1 z), hz4]; rfl
  exact hQ _ _ _ _ _ _ (by rw [← eF]; exact ⟨_, _, _, _, _, ⟨((va_up_ne _ _ (by decide)).trans hRhM_5.1), (va_up_self _ _ _), ((va_up_ne _ _ (by decide)).trans hRhM_5.2.2.1), ((va_up_ne _ _ (by decide)).trans hRhM_5.2.2.2.1), ((va_up_ne _ _ (by decide)).trans hRhM_5.2.2.2.2)⟩, hLhM_5, he9hM_5⟩) (fun z9 => by rw [← eF] at z9; obtain ⟨z2, z3⟩ := oF_z z9; obtain ⟨z4, z5⟩ := oF_z z2; have er := rO_ok hF z5; have er2 := rO_ok z2 z3; have hv3 := (aN_0 (tlC_z z5)).2.2; have hh := cO_h z5; rw [er, er2]; have hp1 := pz_ho (g := tkV bs ln e) (v := tkV bs ln (tkE bs ln e)) hz1 (by omega); rw [hz4, tel_orN _ hk4 _ (by omega)]; exact ⟨hp1, hz2, hz3, rfl, hz5, hwOk_2 hk3 hk4 (by omega) hz6⟩) ((((sm2.rf.tr (sm.l hshM_4)).up (by omega)).tr (sm.l hshM_5)).up (by omega))
set_option maxRecDepth 100000 in
set_option maxHeartbeats 4000000 in
theorem f_X7_rmA {G : gb_G} (hW : gW G) {Q : Option Value → gb_M → Prop} {mM : gb_M} {Y : Nat → Int32} {bs rp : Nat → Nat} {ln rg : Nat} {ia : Bool} {ht ad hw : Nat} {F : Nat × Nat} {e : Nat} (hP : PM G mM Y bs rp ln rg ia ht ad hw F e) (hln : ln ≤ 160) (hbs : ∀ k, k < ln → bs k ≤ 127) (hF : F.1 = 0) {Z : Sc} (hZ : ZR rp rg ia ht ad hw Z) (hok : okZ Z)  (hQ : ∀ M' rp' rg' ht' ad' hw', PM G M' Y bs (rp') ln (rg') ia (ht') (ad') (hw') (orF (fAdd bs ln Z e) (aTB bs ln (tkE bs ln (tkE bs ln e)))) (tkE bs ln (tkE bs ln e)) → ((orF (fAdd bs ln Z e) (aTB bs ln (tkE bs ln (tkE bs ln e)))).1 = 0 → ZR rp' rg' ia ht' ad' hw' (uAdd bs ln Z e)) → sm2 mM M' 49 49 51 51 → Q none M') : Fn G 4 yX7_readMore cX7_readMore 3 none [.ref (gb_ad G 49), .int (nI 6)] mM Q := by
  obtain ⟨ba, sp, he, tk, va, hR, hL, hel⟩ := id hP
  obtain ⟨hz1, hz2, hz3, hz4, hz5, hz6⟩ := hZ
  obtain ⟨hk1, hk2, hk3, hk4, hk5⟩ := id hok
  have hh4 := hz6.1
  have h20 : rp 20 < 16 := by rw [hz1.2.1]; exact hk3
  have hgv4 := hk1.1
  have hN := hW.2.2.1
  refine Fn.of hW.1 [(0, .ref (gb_ad G 49)), (1, .int (nI 6))] (by decide) (Nat.le_of_ble_eq_true rfl) rfl ?_
  intro X O
  refine w_iload_n (n := 1) O dX7_readMore_0 rfl rfl rfl ?_
  refine w_iconst (n := 2) O dX7_readMore_1 (v := (nI 3)) (by decide) rfl ?_
  refine w_icmp_gtN (n := 5) (tgt := 84) O dX7_readMore_2 (by omega) (by omega) (by decide) rfl (fun c_1 => ?_) (fun c_1 => absurd c_1 (by decide))
  refine w_iload_n (n := 85) O dX7_readMore_84 rfl rfl rfl ?_
  refine w_iconst (n := 86) O dX7_readMore_85 (v := (nI 4)) (by decide) rfl ?_
  refine w_icmp_neN (n := 89) (tgt := 115) O dX7_readMore_86 (by omega) (by omega) (by decide) rfl (fun c_2 => ?_) (fun c_2 => absurd c_2 (by decide))
  refine w_iload_n (n := 116) O dX7_readMore_115 rfl rfl rfl ?_
  refine w_iconst (n := 117) O dX7_readMore_116 (v := (nI 5)) (by decide) rfl ?_
  refine w_icmp_neN (n := 120) (tgt := 161) O dX7_readMore_117 (by omega) (by omega) (by decide) rfl (fun c_3 => ?_) (fun c_3 => absurd c_3 (by decide))
  refine w_iload_n (n := 162) O dX7_readMore_161 rfl rfl rfl ?_
  refine w_bipush (n := 164) O dX7_readMore_162 (v := (nI 6)) (by decide) rfl ?_
  refine w_icmp_neN (n := 167) (tgt := 209) O dX7_readMore_164 (by omega) (by omega) (by decide) rfl (fun c_4 => absurd rfl c_4) (fun c_4 => ?_)
  refine w_aload_n (n := 168) O dX7_readMore_167 rfl rfl rfl ?_
  refine w_iconst (n := 169) O dX7_readMore_168 (v := (nI 2)) (by decide) rfl ?_
  refine w_aload_n (n := 170) O dX7_readMore_169 rfl rfl rfl ?_
  refine w_getf (n := 173) O 6 dX7_readMore_170 (by omega) hR.1 rfl (by decide) uX7 uf_X7_118 rfl rfl ?_
  refine w_cV (n := 176) (ro := some (.int (nI (rM bs ln F 2 ad e)))) (R := fun mM' => PM G mM' Y bs rp ln rg ia ht ad hw (oF bs ln F (cM bs ln 2 ad e) e) (tkE bs ln e) ∧ sm mM mM' 49 49) (st := []) (st1 := [.int (nI (rM bs ln F 2 ad e))]) (As := [.int (nI 2), .int (nI (ad))]) (b := 49) O dX7_readMore_173 ul_X7_108 um_X7_metalHere (f_X7_metalHere hW ⟨_, _, _, _, _, ⟨hR.1, hR.2.1, hR.2.2.1, hR.2.2.2.1, hR.2.2.2.2⟩, hL, hel⟩ hln hbs (by omega) (by omega) (fun M' h1 h2 => ⟨rfl, h1, h2⟩)) rfl (by omega) hR.1 rfl rfl rfl rfl (by omega) (Nat.le_of_ble_eq_true rfl) rfl (fun mhM_5 hM_5 => ?_)
  obtain ⟨⟨bahM_5, sphM_5, hehM_5, tkhM_5, vahM_5, hRhM_5, hLhM_5, he9hM_5⟩, hshM_5⟩ := hM_5
  obtain ⟨hl1hM_5, hl2hM_5, hl3hM_5, hl4hM_5, hl5hM_5, hl6hM_5, hl7hM_5⟩ := id hLhM_5
  have hrhM_5 := rM_le (bs := bs) (ln := ln) (F := F) (last := 2) (so := ad) (e := e)
  refine w_istore_n (n := 177) (lv' := [(2, .int (nI (rM bs ln F 2 ad e))), (0, .ref (gb_ad G 49)), (1, .int (nI 6))]) O dX7_readMore_176 rfl (by decide) rfl rfl ?_
  refine w_aload_n (n := 178) O dX7_readMore_177 rfl rfl rfl ?_
  refine w_dup (n := 179) O dX7_readMore_178 rfl rfl ?_
  refine w_getf (n := 182) O 6 dX7_readMore_179 (by omega) hRhM_5.1 rfl (by decide) uX7 uf_X7_118 rfl rfl ?_
  refine w_iconst (n := 183) O dX7_readMore_182 (v := (nI 1)) (by decide) rfl ?_
  refine w_iload_n (n := 184) O dX7_readMore_183 rfl rfl rfl ?_
  refine w_ishl (n := 185) O dX7_readMore_184 rfl ?_
  refine w_top (nI (2 ^ (rM bs ln F 2 ad e))) (shl1 (by omega)) ?_
  refine w_ior (n := 186) O dX7_readMore_185 rfl ?_
  refine w_top (nI (ad ||| (2 ^ (rM bs ln F 2 ad e)))) (nI_or _ _) ?_
  refine w_putf (n := 189) (fs' := [.ref (gb_ad G 50), .int (Y 1), .ref (gb_ad G 51), .int (nI (rg)), .int (bI (ia)), .int (nI (ht)), .int (nI ((ad ||| (2 ^ (rM bs ln F 2 ad e))))), .int (dI hw), .ref (gb_ad G 52), .int (nI (ln)), .int (Y 10), .int (nI ((oF bs ln F (cM bs ln 2 ad e) e).1)), .int (nI (bahM_5)), .int (nI (sphM_5)), .int (nI (hehM_5)), .int (nI (tkhM_5)), .int (nI (vahM_5)), .ref (gb_ad G 53), .ref (gb_ad G 54), .int (Y 19), .int (Y 20), .int (Y 21), .int (Y 22), .ref (gb_ad G 55), .int (Y 24), .ref (gb_ad G 56), .int (Y 26), .ref (gb_ad G 57), .ref (gb_ad G 58), .ref (gb_ad G 59), .ref (gb_ad G 60), .int (Y 31)]) O 6 dX7_readMore_186 (by omega) hRhM_5.1 rfl (by decide) uX7 uf_X7_118 tyX7 tyX7_ok nmX7 rfl rfl rfl (Nat.le_of_ble_eq_true rfl) rfl rfl ?_
  refine w_aload_n (n := 190) O dX7_readMore_189 rfl rfl rfl ?_
  refine w_getf (n := 193) O 2 dX7_readMore_190 (by omega) (va_up_self _ _ _) rfl (by decide) uX7 uf_X7_13 rfl rfl ?_
  refine w_bipush (n := 195) O dX7_readMore_193 (v := (nI 21)) (by decide) rfl ?_
  refine w_iload_n (n := 196) O dX7_readMore_195 rfl rfl rfl ?_
  refine w_iaddN (n := 197) O dX7_readMore_196 rfl ?_
  refine w_aload_n (n := 198) O dX7_readMore_197 rfl rfl rfl ?_
  refine w_iconst (n := 199) O dX7_readMore_198 (v := (nI 0)) (by decide) rfl ?_
  refine w_bipush (n := 201) O dX7_readMore_199 (v := (nI 40)) (by decide) rfl ?_
  refine w_iconst (n := 202) O dX7_readMore_201 (v := (nI 0)) (by decide) rfl ?_
  refine w_cV (n := 205) (ro := some (.int (nI (rO bs ln (oF bs ln F (cM bs ln 2 ad e) e) 0 40 0 (tkE bs ln e))))) (R := fun mM' => PM G mM' Y bs rp ln rg ia ht (ad ||| (2 ^ (rM bs ln F 2 ad e))) hw (oF bs ln (oF bs ln F (cM bs ln 2 ad e) e) (cO bs ln 0 40 0 (tkE bs ln e)) (tkE bs ln e)) (tkE bs ln (tkE bs ln e)) ∧ sm (va_up mhM_5 (49) (.inr (7, [.ref (gb_ad G 50), .int (Y 1), .ref (gb_ad G 51), .int (nI (rg)), .int (bI (ia)), .int (nI (ht)), .int (nI ((ad ||| (2 ^ (rM bs ln F 2 ad e))))), .int (dI hw), .ref (gb_ad G 52), .int (nI (ln)), .int (Y 10), .int (nI ((oF bs ln F (cM bs ln 2 ad e) e).1)), .int (nI (bahM_5)), .int (nI (sphM_5)), .int (nI (hehM_5)), .int (nI (tkhM_5)), .int (nI (vahM_5)), .ref (gb_ad G 53), .ref (gb_ad G 54), .int (Y 19), .int (Y 20), .int (Y 21), .int (Y 22), .ref (gb_ad G 55), .int (Y 24), .ref (gb_ad G 56), .int (Y 26), .ref (gb_ad G 57), .ref (gb_ad G 58), .ref (gb_ad G 59), .ref (gb_ad G 60), .int (Y 31)]))) mM' 49 49) (st := [.int (nI ((21 + (rM bs ln F 2 ad e)))), .ref (gb_ad G 51)]) (st1 := [.int (nI (rO bs ln (oF bs ln F (cM bs ln 2 ad e) e) 0 40 0 (tkE bs ln e))), .int (nI ((21 + (rM bs ln F 2 ad e)))), .ref (gb_ad G 51)]) (As := [.int (nI 0), .int (nI 40), .int (nI 0)]) (b := 49) O dX7_readMore_202 ul_X7_94 um_X7_other (f_X7_other hW ⟨_, _, _, _, _, ⟨(va_up_self _ _ _), ((va_up_ne _ _ (by decide)).trans hRhM_5.2.1), ((va_up_ne _ _ (by decide)).trans hRhM_5.2.2.1), ((va_up_ne _ _ (by decide)).trans hRhM_5.2.2.2.1), ((va_up_ne _ _ (by decide)).trans hRhM_5.2.2.2.2)⟩, hLhM_5, he9hM_5⟩ hln hbs (by omega) (by omega) (by omega) (fun z => by omega) (fun M' h1 h2 => ⟨rfl, h1, h2⟩)) rfl (by omega) (va_up_self _ _ _) rfl rfl rfl rfl (by omega) (Nat.le_of_ble_eq_true rfl) rfl (fun mhM_6 hM_6 => ?_)
  obtain ⟨⟨bahM_6, sphM_6, hehM_6, tkhM_6, vahM_6, hRhM_6, hLhM_6, he9hM_6⟩, hshM_6⟩ := hM_6
  obtain ⟨hl1hM_6, hl2hM_6, hl3hM_6, hl4hM_6, hl5hM_6, hl6hM_6, hl7hM_6⟩ := id hLhM_6
  have hrhM_6 := rO_le (bs := bs) (ln := ln) (F := oF bs ln F (cM bs ln 2 ad e) e) (lo := 0) (hi := 40) (so := 0) (e := tkE bs ln e) (by decide)
  refine w_iastP (n := 206) (v := rO bs ln (oF bs ln F (cM bs ln 2 ad e) e) 0 40 0 (tkE bs ln e)) O dX7_readMore_205 hW.2.1 (by omega) hRhM_6.2.1 (by omega) (by decide) (pgI_nv (by omega)) rfl ?_
  refine w_goto (tgt := 242) O dX7_readMore_206 (by decide) ?_
  refine w_vret O dX7_readMore_242 ?_
  have eF : oF bs ln (oF bs ln F (cM bs ln 2 ad e) e) (cO bs ln 0 40 0 (tkE bs ln e)) (tkE bs ln e) = orF (fAdd bs ln Z e) (aTB bs ln (tkE bs ln (tkE bs ln e))) := by rw [oF_st hF, cO_0]; rw [oF_go (x := (cM bs ln 2 ad e, tkB bs ln e)) (fun z => aN_1 z), hz5]; rfl
  exact hQ _ _ _ _ _ _ (by rw [← eF]; exact ⟨_, _, _, _, _, ⟨((va_up_ne _ _ (by decide)).trans hRhM_6.1), (va_up_self _ _ _), ((va_up_ne _ _ (by decide)).trans hRhM_6.2.2.1), ((va_up_ne _ _ (by decide)).trans hRhM_6.2.2.2.1), ((va_up_ne _ _ (by decide)).trans hRhM_6.2.2.2.2)⟩, hLhM_6, he9hM_6⟩) (fun z9 => by rw [← eF] at z9; obtain ⟨z2, z3⟩ := oF_z z9; have er := rM_ok z2; have er2 := rO_ok z2 z3; have hm2 := aM_0 (tlC_z (oF_z z2).2); rw [er, er2]; have hp1 := pz_ad (m := mAt bs ln e) (v := tkV bs ln (tkE bs ln e)) hz1 (by omega); rw [hz5, tel_orN _ hk5 _ (by omega)]; exact ⟨hp1, hz2, hz3, hz4, rfl, hz6⟩) ((((sm2.rf.tr (sm.l hshM_5)).up (by omega)).tr (sm.l hshM_6)).up (by omega))
set_option maxRecDepth 100000 in
set_option maxHeartbeats 4000000 in
theorem f_X7_rmQ {G : gb_G} (hW : gW G) {Q : Option Value → gb_M → Prop} {mM : gb_M} {Y : Nat → Int32} {bs rp : Nat → Nat} {ln rg : Nat} {ia : Bool} {ht ad hw : Nat} {F : Nat × Nat} {e : Nat} (hP : PM G mM Y bs rp ln rg ia ht ad hw F e) (hln : ln ≤ 160) (hbs : ∀ k, k < ln → bs k ≤ 127) (hF : F.1 = 0) {Z : Sc} {ia0 : Bool} (hZ : ZR rp rg ia0 ht ad hw Z) (hok : okZ Z) (hia : ia = true)  (hQ : ∀ M' rp' rg' ht' ad' hw', PM G M' Y bs (rp') ln (rg') ia (ht') (ad') (hw') (orF (orF (aN bs ln 3 12 e, tkB bs ln e) (aN bs ln 0 10 (tkE bs ln e), tkB bs ln (tkE bs ln e))) (aTB bs ln (tkE bs ln (tkE bs ln e)))) (tkE bs ln (tkE bs ln e)) → ((orF (orF (aN bs ln 3 12 e, tkB bs ln e) (aN bs ln 0 10 (tkE bs ln e), tkB bs ln (tkE bs ln e))) (aTB bs ln (tkE bs ln (tkE bs ln e)))).1 = 0 → ZR rp' rg' ia ht' ad' hw' (uAsk bs ln Z e)) → sm2 mM M' 49 49 51 51 → Q none M') : Fn G 4 yX7_readMore cX7_readMore 3 none [.ref (gb_ad G 49), .int (nI 7)] mM Q := by
  obtain ⟨ba, sp, he, tk, va, hR, hL, hel⟩ := id hP
  obtain ⟨hz1, hz2, hz3, hz4, hz5, hz6⟩ := hZ
  obtain ⟨hk1, hk2, hk3, hk4, hk5⟩ := id hok
  have hh4 := hz6.1
  have h20 : rp 20 < 16 := by rw [hz1.2.1]; exact hk3
  have hgv4 := hk1.1
  have hN := hW.2.2.1
  refine Fn.of hW.1 [(0, .ref (gb_ad G 49)), (1, .int (nI 7))] (by decide) (Nat.le_of_ble_eq_true rfl) rfl ?_
  intro X O
  refine w_iload_n (n := 1) O dX7_readMore_0 rfl rfl rfl ?_
  refine w_iconst (n := 2) O dX7_readMore_1 (v := (nI 3)) (by decide) rfl ?_
  refine w_icmp_gtN (n := 5) (tgt := 84) O dX7_readMore_2 (by omega) (by omega) (by decide) rfl (fun c_1 => ?_) (fun c_1 => absurd c_1 (by decide))
  refine w_iload_n (n := 85) O dX7_readMore_84 rfl rfl rfl ?_
  refine w_iconst (n := 86) O dX7_readMore_85 (v := (nI 4)) (by decide) rfl ?_
  refine w_icmp_neN (n := 89) (tgt := 115) O dX7_readMore_86 (by omega) (by omega) (by decide) rfl (fun c_2 => ?_) (fun c_2 => absurd c_2 (by decide))
  refine w_iload_n (n := 116) O dX7_readMore_115 rfl rfl rfl ?_
  refine w_iconst (n := 117) O dX7_readMore_116 (v := (nI 5)) (by decide) rfl ?_
  refine w_icmp_neN (n := 120) (tgt := 161) O dX7_readMore_117 (by omega) (by omega) (by decide) rfl (fun c_3 => ?_) (fun c_3 => absurd c_3 (by decide))
  refine w_iload_n (n := 162) O dX7_readMore_161 rfl rfl rfl ?_
  refine w_bipush (n := 164) O dX7_readMore_162 (v := (nI 6)) (by decide) rfl ?_
  refine w_icmp_neN (n := 167) (tgt := 209) O dX7_readMore_164 (by omega) (by omega) (by decide) rfl (fun c_4 => ?_) (fun c_4 => absurd c_4 (by decide))
  refine w_aload_n (n := 210) O dX7_readMore_209 rfl rfl rfl ?_
  refine w_getf (n := 213) O 2 dX7_readMore_210 (by omega) hR.1 rfl (by decide) uX7 uf_X7_13 rfl rfl ?_
  refine w_bipush (n := 215) O dX7_readMore_213 (v := (nI 24)) (by decide) rfl ?_
  refine w_aload_n (n := 216) O dX7_readMore_215 rfl rfl rfl ?_
  refine w_iconst (n := 217) O dX7_readMore_216 (v := (nI 3)) (by decide) rfl ?_
  refine w_bipush (n := 219) O dX7_readMore_217 (v := (nI 12)) (by decide) rfl ?_
  refine w_iconst (n := 220) O dX7_readMore_219 (v := (nI 0)) (by decide) rfl ?_
  refine w_cV (n := 223) (ro := some (.int (nI (rO bs ln F 3 12 0 e)))) (R := fun mM' => PM G mM' Y bs rp ln rg ia ht ad hw (oF bs ln F (cO bs ln 3 12 0 e) e) (tkE bs ln e) ∧ sm mM mM' 49 49) (st := [.int (nI 24), .ref (gb_ad G 51)]) (st1 := [.int (nI (rO bs ln F 3 12 0 e)), .int (nI 24), .ref (gb_ad G 51)]) (As := [.int (nI 3), .int (nI 12), .int (nI 0)]) (b := 49) O dX7_readMore_220 ul_X7_94 um_X7_other (f_X7_other hW ⟨_, _, _, _, _, ⟨hR.1, hR.2.1, hR.2.2.1, hR.2.2.2.1, hR.2.2.2.2⟩, hL, hel⟩ hln hbs (by omega) (by omega) (by omega) (fun z => by omega) (fun M' h1 h2 => ⟨rfl, h1, h2⟩)) rfl (by omega) hR.1 rfl rfl rfl rfl (by omega) (Nat.le_of_ble_eq_true rfl) rfl (fun mhM_5 hM_5 => ?_)
  obtain ⟨⟨bahM_5, sphM_5, hehM_5, tkhM_5, vahM_5, hRhM_5, hLhM_5, he9hM_5⟩, hshM_5⟩ := hM_5
  obtain ⟨hl1hM_5, hl2hM_5, hl3hM_5, hl4hM_5, hl5hM_5, hl6hM_5, hl7hM_5⟩ := id hLhM_5
  have hrhM_5 := rO_le (bs := bs) (ln := ln) (F := F) (lo := 3) (hi := 12) (so := 0) (e := e) (by decide)
  refine w_bipush (n := 225) O dX7_readMore_223 (v := (nI 6)) (by decide) rfl ?_
  refine w_isub (n := 226) O dX7_readMore_225 rfl ?_
  refine w_iastP (n := 227) (v := rO bs ln F 3 12 0 e) O dX7_readMore_226 hW.2.1 (by omega) hRhM_5.2.1 (by omega) (by decide) (pgI_qv (by omega)) rfl ?_
  refine w_aload_n (n := 228) O dX7_readMore_227 rfl rfl rfl ?_
  refine w_getf (n := 231) O 2 dX7_readMore_228 (by omega) ((va_up_ne _ _ (by decide)).trans hRhM_5.1) rfl (by decide) uX7 uf_X7_13 rfl rfl ?_
  refine w_bipush (n := 233) O dX7_readMore_231 (v := (nI 25)) (by decide) rfl ?_
  refine w_aload_n (n := 234) O dX7_readMore_233 rfl rfl rfl ?_
  refine w_iconst (n := 235) O dX7_readMore_234 (v := (nI 0)) (by decide) rfl ?_
  refine w_bipush (n := 237) O dX7_readMore_235 (v := (nI 10)) (by decide) rfl ?_
  refine w_iconst (n := 238) O dX7_readMore_237 (v := (nI 0)) (by decide) rfl ?_
  refine w_cV (n := 241) (ro := some (.int (nI (rO bs ln (oF bs ln F (cO bs ln 3 12 0 e) e) 0 10 0 (tkE bs ln e))))) (R := fun mM' => PM G mM' Y bs (upN rp 24 (rO bs ln F 3 12 0 e)) ln rg ia ht ad hw (oF bs ln (oF bs ln F (cO bs ln 3 12 0 e) e) (cO bs ln 0 10 0 (tkE bs ln e)) (tkE bs ln e)) (tkE bs ln (tkE bs ln e)) ∧ sm (va_up mhM_5 (51) (IA G 30 (pgI (upN rp 24 (rO bs ln F 3 12 0 e))))) mM' 49 49) (st := [.int (nI 25), .ref (gb_ad G 51)]) (st1 := [.int (nI (rO bs ln (oF bs ln F (cO bs ln 3 12 0 e) e) 0 10 0 (tkE bs ln e))), .int (nI 25), .ref (gb_ad G 51)]) (As := [.int (nI 0), .int (nI 10), .int (nI 0)]) (b := 49) O dX7_readMore_238 ul_X7_94 um_X7_other (f_X7_other hW ⟨_, _, _, _, _, ⟨((va_up_ne _ _ (by decide)).trans hRhM_5.1), (va_up_self _ _ _), ((va_up_ne _ _ (by decide)).trans hRhM_5.2.2.1), ((va_up_ne _ _ (by decide)).trans hRhM_5.2.2.2.1), ((va_up_ne _ _ (by decide)).trans hRhM_5.2.2.2.2)⟩, hLhM_5, he9hM_5⟩ hln hbs (by omega) (by omega) (by omega) (fun z => by omega) (fun M' h1 h2 => ⟨rfl, h1, h2⟩)) rfl (by omega) ((va_up_ne _ _ (by decide)).trans hRhM_5.1) rfl rfl rfl rfl (by omega) (Nat.le_of_ble_eq_true rfl) rfl (fun mhM_6 hM_6 => ?_)
  obtain ⟨⟨bahM_6, sphM_6, hehM_6, tkhM_6, vahM_6, hRhM_6, hLhM_6, he9hM_6⟩, hshM_6⟩ := hM_6
  obtain ⟨hl1hM_6, hl2hM_6, hl3hM_6, hl4hM_6, hl5hM_6, hl6hM_6, hl7hM_6⟩ := id hLhM_6
  have hrhM_6 := rO_le (bs := bs) (ln := ln) (F := oF bs ln F (cO bs ln 3 12 0 e) e) (lo := 0) (hi := 10) (so := 0) (e := tkE bs ln e) (by decide)
  refine w_iastP (n := 242) (v := rO bs ln (oF bs ln F (cO bs ln 3 12 0 e) e) 0 10 0 (tkE bs ln e)) O dX7_readMore_241 hW.2.1 (by omega) hRhM_6.2.1 (by omega) (by decide) (pgI_nv (by omega)) rfl ?_
  refine w_vret O dX7_readMore_242 ?_
  have eF : oF bs ln (oF bs ln F (cO bs ln 3 12 0 e) e) (cO bs ln 0 10 0 (tkE bs ln e)) (tkE bs ln e) = orF (orF (aN bs ln 3 12 e, tkB bs ln e) (aN bs ln 0 10 (tkE bs ln e), tkB bs ln (tkE bs ln e))) (aTB bs ln (tkE bs ln (tkE bs ln e))) := by rw [oF_st hF, cO_0, cO_0]; rw [oF_go (x := (aN bs ln 3 12 e, tkB bs ln e)) (fun z => aN_1 z)]
  exact hQ _ _ _ _ _ _ (by rw [← eF]; exact ⟨_, _, _, _, _, ⟨((va_up_ne _ _ (by decide)).trans hRhM_6.1), (va_up_self _ _ _), ((va_up_ne _ _ (by decide)).trans hRhM_6.2.2.1), ((va_up_ne _ _ (by decide)).trans hRhM_6.2.2.2.1), ((va_up_ne _ _ (by decide)).trans hRhM_6.2.2.2.2)⟩, hLhM_6, he9hM_6⟩) (fun z9 => by rw [← eF] at z9; obtain ⟨z2, z3⟩ := oF_z z9; obtain ⟨z4, z5⟩ := oF_z z2; have er := rO_ok hF z5; have er2 := rO_ok z2 z3; rw [er, er2]; exact ⟨pz_ask hz1, hz2, hia, hz4, hz5, hz6⟩) ((((sm2.rf.tr (sm.l hshM_5)).up (by omega)).tr (sm.l hshM_6)).up (by omega))
