/-! THE LAW'S LOOP -/
theorem isCW.kp {G : gb_G} {M M' : gb_M} {T : Tw} {im : Nat → Tw} {kp : Nat → Bool} {bs : Nat → Nat} {ln fa : Nat} {st sf : Nat → Nat} {sn : Nat} {sh : Sh} {sc : Nat → Nat → Int32} {tn : Nat} (h : isCW G M T im kp bs ln fa st sf sn sh sc tn) (e : sm M M' 49 60) : isCW G M' T im kp bs ln fa st sf sn sh sc tn := by
  obtain ⟨h1, h2, h3, h4, h5, h6, h7, h8, h9, h10, h11⟩ := h
  exact ⟨h1.kp (kp_sm e (by omega)), h2.kp (kp_sm e (by omega)), h3, h4.kp (kp_sm e (by omega)), h5.kp (kp_sm e (by omega)), h6.kp (kp_sm e (by omega)), h7.kp (kp_sm e (by omega)), h8.kp (kp_sm e (by omega)), h9.kp (kp_sm e (by omega)), kpE.kp h10 (kp_sm e (by omega)), h11.kp (kp_sm e (by omega))⟩
theorem isMW.obj {G : gb_G} {M : gb_M} {T : Tw} {im : Nat → Tw} {kp : Nat → Bool} {bs : Nat → Nat} {ln fa : Nat} {st sf : Nat → Nat} {sn : Nat} {sh : Sh} {sc : Nat → Nat → Int32} {tn : Nat} (h : isMW G M T im kp bs ln fa st sf sn sh sc tn) : ∃ fs : List Value, M 49 = .inr (7, fs) := by
  obtain ⟨s, se, le, rp, te, la, ce, tm, x3, x4, x5, x6, x7, x11, x12, x13, x14, x15, x16, x26, h49, hr⟩ := h
  exact ⟨_, h49⟩
theorem isCW.obj {G : gb_G} {M : gb_M} {T : Tw} {im : Nat → Tw} {kp : Nat → Bool} {bs : Nat → Nat} {ln fa : Nat} {st sf : Nat → Nat} {sn : Nat} {sh : Sh} {sc : Nat → Nat → Int32} {tn : Nat} (h : isCW G M T im kp bs ln fa st sf sn sh sc tn) : ∃ fs : List Value, M 0 = .inr (6, fs) := ⟨_, h.1⟩
theorem cmp_self (x : Int64) : lg_cmp x x = 0 := by
  unfold lg_cmp
  rw [if_neg (Int64.lt_irrefl), if_pos rfl]
/-- what both hold -/
def iL (G : gb_G) (M : gb_M) : Prop := ∃ (T : Tw) (im : Nat → Tw) (kp : Nat → Bool) (bs : Nat → Nat) (ln fa : Nat) (st sf : Nat → Nat) (sn : Nat) (sh : Sh) (sc : Nat → Nat → Int32) (tn : Nat), isCW G M T im kp bs ln fa st sf sn sh sc tn ∧ isMW G M T im kp bs ln fa st sf sn sh sc tn
/-- what the law's frame has beside -/
def gL (G : gb_G) (X : gb_X) (A : Nat → Prop) (b L : Nat) (xs : Nat → Int32) (kc ks : Nat) : Prop := gW G ∧ gb_Z G A X.2.2.2.1 ∧ va_X b L xs X.2.2.2.1 X.2.2.2.1.heap ∧ b < X.2.2.2.1.heap.size ∧ ¬ A b ∧ L ≤ 320 ∧ kc ≤ X.2.2.1.cells ∧ ks ≤ X.2.2.1.slots
section GBLW
variable {G : gb_G} {X : gb_X} {A : Nat → Prop} {cc : ByteArray} {nL : Nat} {own : String} {d : Nat} {Q : State → Prop} {pc n : Nat} {lv lv' : List (Nat × Value)} {st : List Value} {kc ks : Nat} {M : gb_M} {b L : Nat} {xs : Nat → Int32}
theorem pl_D {A : Nat → Prop} {ad : Nat → Nat} {N : Nat} {M M' : gb_M} (h : va_D A (gb_pl ad N M)) : va_D A (gb_pl ad N M') := by
  have e : ∀ (k : Nat) (q : Nat × va_E), (gb_pl ad N M')[k]? = some q → (gb_pl ad N M)[k]? = some (q.1, M k) := by
    intro k q hq
    have hi : k < N := by have := (List.getElem?_eq_some_iff.mp hq).1; simpa [gb_pl] using this
    rw [gb_pl_get hi] at hq
    cases hq
    exact gb_pl_get hi
  exact ⟨fun i j p q hp hq z => h.1 i j _ _ (e i p hp) (e j q hq) z, fun k q hk => h.2 k (q.1, M k) (e k q hk)⟩
theorem l_callF (O : gC G X A cc nL own d) (g : gL G X A b L xs kc ks) {P : gb_M → Prop} {a : Value} {y : MethodName} {bytes : ByteArray} {maxL d' c ci N idx np lo hi : Nat} {rt : Option FieldType} {C : String} {T : u_T} {As : List Value} {st0 : List Value} (hd : decode cc pc = .ok (.invokevirtual idx, 3)) (hlk : Cond.methodLink own idx y ∈ gU) (hy : gb_CV y bytes maxL rt np) (F : ∀ Q' : Option Value → gb_M → Prop, (∀ M', P M' → sm M M' lo hi → Q' (some a) M') → Fn G d' y bytes maxL rt (.ref (gb_ad G c) :: As) M Q') (hnp : As.length = np) (hcN : c < 61) (hb : ∃ fs : List Value, M c = .inr (ci, fs)) (hc : vwCl[ci]? = some (C, T, N)) (hC : y.cls = C) (hst : st0 = As.reverse ++ .ref (gb_ad G c) :: st) (hdd : d' + 1 ≤ d) (hcat : (st.map fun v => v.category).sum ≤ 8) (hn : pc + 3 = n) (k : ∀ M' : gb_M, P M' → sm M M' lo hi → Wl G X A nL Q n lv (a :: st) (gb_pl (gb_ad G) (gb_N G) M') kc ks) : Wl G X A nL Q pc lv st0 (gb_pl (gb_ad G) (gb_N G) M) kc ks := by
  subst hn; subst hC; subst hnp
  obtain ⟨fs, hb⟩ := hb
  have F := F (fun v M' => v = some a ∧ P M' ∧ sm M M' lo hi) (fun M' h1 h2 => ⟨rfl, h1, h2⟩)
  intro H locs ls hP hD hS hl
  have hT : GoodIn gU (wsV own idx y.cls y (Cond.code y bytes maxL rt :: gU)) := gU_goodIn (fun w hw => by
    rcases List.mem_append.mp hw with h | h
    · simp only [List.mem_cons, List.not_mem_nil, or_false] at h
      rcases h with rfl | rfl | rfl | rfl
      · exact hlk
      · exact hy.1
      · exact hy.2.1
      · exact hy.2.2.1
    · rcases List.mem_cons.mp h with rfl | h
      · exact hy.2.2.2.1
      · exact h)
  have sub : ∀ q : Nat, gb_A (gb_ad G) (gb_N G) H.size q → A q := by
    intro q h
    rcases h with ⟨j, hj, rfl⟩ | h
    · exact hD.2 j _ (gb_pl_get hj)
    · exact O.2.2.2.2.2.2.1 q (Nat.le_trans hS.1 h)
  have hcN : c < gb_N G := by rw [g.1.2.2.1]; exact hcN
  have hr := va_runV (As := As) (rest := st) ⟨O.1, O.2.1, O.2.2.1, O.2.2.2.1, O.2.2.2.2.1⟩ (F H.size) (cwV As.length O.2.2.2.2.1 hT rfl rfl rfl ⟨rfl, hy.2.2.2.2.1⟩ ⟨Nat.le_trans hdd O.2.2.2.2.2.2.2.1, by have h1 := O.2.2.2.2.2.2.2.2.1; have h2 : (gb_rm d').locals = 100 * d' := rfl; have h3 := hy.2.2.2.2.2; omega⟩)
    ⟨gb_blind g.1.1, va_recv O.2.2.2.2.2.1 hP hc (gb_pl_at hcN hb), fun U hU hW => ⟨rfl, by rw [hU], by rw [hU]; exact hP, va_K.moved hW.alike O.2.2.2.2.2.1, g.1.1.2.2 _ _ _ _ g.2.1 hW (fun q h1 h2 => by rw [hU]; exact hS.2.1 q h1 h2) sub⟩⟩ (g := F0 X.2.2.2.2.1 pc ls st0) (locs := locs) (e := X.2.1) (below := X.2.2.2.2.2.2.1) (meth := X.2.2.2.2.2.2.2.1) (R := X.2.2.1) rfl rfl hl.1 hst (lv_room hcat) hd (cells := kc) (slots := ks) ⟨g.2.2.2.2.2.2.1, g.2.2.2.2.2.2.2⟩
  intro T0 hT0 Y
  obtain ⟨v, st₀, t, T', L', h0, Y', hL, e1, e2, ⟨⟨v', M', hv, ⟨q1, q2, q3⟩, hP'⟩, hz, hk⟩, stp⟩ := hr T0 hT0 Y
  cases hv
  subst q1
  rw [h0] at hz hk
  obtain ⟨t2, a1, b1⟩ := k M' q2 q3 T'.heap (locs ++ L') ls (by rw [e1]; exact hP') (pl_D hD)
    ⟨Nat.le_trans hS.1 (by rw [e1]; exact hz), fun q h1 h2 => by rw [e1, hk q (Nat.lt_of_lt_of_le h1 hS.1) (fun z => h2 (sub q z))]; exact hS.2.1 q h1 h2, fun q hq => by
      rcases List.mem_append.mp hq with h | h
      · exact hS.2.2 q h
      · exact sub _ (hL q h)⟩ hl T' rfl Y'
  exact ⟨t2, stp t2 a1, b1⟩
theorem l_sld (O : gC G X A cc nL own d) (g : gL G X A b L xs kc ks) {ws : va_W} {j : Nat} {x : Int32} (hx : x = nI j) (hj : j < L) (hd : decode cc pc = .ok (.iaload, 1)) (hn : pc + 1 = n) (k : Wl G X A nL Q n lv (.int (xs j) :: st) ws kc ks) : Wl G X A nL Q pc lv (.int x :: .ref b :: st) ws kc ks := by
  subst hn; subst hx
  have hL := g.2.2.2.2.2.1
  exact fun H locs ls hP hD hS hl => va_sld O.1 O.2.1 g.2.2.1 g.2.2.2.1 g.2.2.2.2.1 hS (vp_in_nI hj (by omega)) hd (by rw [nI_clamp (by omega)]; exact k H locs ls hP hD hS hl)
theorem l_slen (O : gC G X A cc nL own d) (g : gL G X A b L xs kc ks) {ws : va_W} (hd : decode cc pc = .ok (.arraylength, 1)) (hn : pc + 1 = n) (k : Wl G X A nL Q n lv (.int (nI L) :: st) ws kc ks) : Wl G X A nL Q pc lv (.ref b :: st) ws kc ks := by
  subst hn
  exact fun H locs ls hP hD hS hl => va_slen O.1 O.2.1 g.2.2.1 g.2.2.2.1 g.2.2.2.2.1 hS hd (k H locs ls hP hD hS hl)
abbrev lvL (G : gb_G) (b i : Nat) : List (Nat × Value) := [(3, .int (nI i)), (2, .ref (gb_ad G 49)), (1, .ref (gb_ad G 0)), (0, .ref b)]
theorem l_arg (O : gC G X A cc nL own d) (g : gL G X A b L xs kc ks) {ws : va_W} {i j : Nat} {z : Int} (h1 : decode cc pc = .ok (.aload_n 0, 1)) (h2 : decode cc (pc + 1) = .ok (.iload_n 3, 1)) (h3 : decode cc (pc + 1 + 1) = .ok (.iconst z, 1)) (hz : Int32.ofInt z = nI j) (h4 : decode cc (pc + 1 + 1 + 1) = .ok (.iadd, 1)) (h5 : decode cc (pc + 1 + 1 + 1 + 1) = .ok (.iaload, 1)) (hj : i + j < L) (hn : pc + 5 = n) (k : Wl G X A nL Q n (lvL G b i) (.int (xs (i + j)) :: st) ws kc ks) : Wl G X A nL Q pc (lvL G b i) st ws kc ks := by
  subst hn
  refine l_aload_n O h1 rfl rfl rfl ?_
  refine l_iload_n O h2 rfl rfl rfl ?_
  refine l_iconst O h3 hz rfl ?_
  refine l_iadd O h4 rfl ?_
  exact l_sld O g (nI_add i j) hj h5 rfl k
end GBLW
set_option maxRecDepth 20000 in
theorem law_feed {G : gb_G} {X : gb_X} {A : Nat → Prop} {d : Nat} {Q : State → Prop} {kc ks b L i : Nat} {xs : Nat → Int32} {M : gb_M} (O : gC G X A code 4 RL d) (hd : 11 ≤ d) (g : gL G X A b L xs kc ks) (hi : i + 4 < L) (hI : iL G M) (hk : ∀ M', iL G M' → Wl G X A 4 Q 1135 (lvL G b i) [] (gb_pl (gb_ad G) (gb_N G) M') kc ks) : Wl G X A 4 Q 188 (lvL G b i) [] (gb_pl (gb_ad G) (gb_N G) M) kc ks := by
  obtain ⟨T, im, kp, bs, ln, fa, st, sf, sn, sh, sc, tn, hC, hM⟩ := hI
  refine l_aload_n (n := 189) O dL_law_188 rfl rfl rfl ?_
  refine l_arg (j := 1) (n := 194) O g dL_law_189 dL_law_190 dL_law_191 (by decide) dL_law_192 dL_law_193 (by omega) rfl ?_
  refine l_callF (c := 0) (ci := 6) (As := [.int (xs (i + 1))]) (n := 197) O g dL_law_194 ul_L_13 um_X6_feed (fun _ hQ => f_X6_feed g.1 hC hQ) rfl (by decide) hC.obj rfl rfl rfl (Nat.le_trans (by decide) hd) (Nat.le_of_ble_eq_true rfl) rfl (fun M1 hC1 s1 => ?_)
  have hM1 := hM.kp (kp_sm s1 (by omega))
  refine l_aload_n (n := 198) O dL_law_197 rfl rfl rfl ?_
  refine l_arg (j := 1) (n := 203) O g dL_law_198 dL_law_199 dL_law_200 (by decide) dL_law_201 dL_law_202 (by omega) rfl ?_
  refine l_callF (c := 49) (ci := 7) (As := [.int (xs (i + 1))]) (n := 206) O g dL_law_203 ul_L_17 um_X7_feed (fun _ hQ => f_X7_feed g.1 hC.2.2.1 hM1 hQ) rfl (by decide) hM1.obj rfl rfl rfl (Nat.le_trans (by decide) hd) (Nat.le_of_ble_eq_true rfl) rfl (fun M2 hM2 s2 => ?_)
  have hk := hk M2 ⟨_, _, _, _, _, _, _, _, _, _, _, _, hC1.kp s2, hM2⟩
  exact l_icmp_eq (tgt := 1135) (n := 209) O dL_law_206 (by decide) rfl (fun _ => hk) (fun q => absurd rfl q)
set_option maxRecDepth 20000 in
theorem law_end {G : gb_G} {X : gb_X} {A : Nat → Prop} {d : Nat} {Q : State → Prop} {kc ks b L i : Nat} {xs : Nat → Int32} {M : gb_M} (O : gC G X A code 4 RL d) (hd : 11 ≤ d) (g : gL G X A b L xs kc ks) (hi : i + 4 < L) (hI : iL G M) (hk : ∀ M', iL G M' → Wl G X A 4 Q 1135 (lvL G b i) [] (gb_pl (gb_ad G) (gb_N G) M') kc ks) : Wl G X A 4 Q 211 (lvL G b i) [] (gb_pl (gb_ad G) (gb_N G) M) kc ks := by
  obtain ⟨T, im, kp, bs, ln, fa, st, sf, sn, sh, sc, tn, hC, hM⟩ := hI
  refine l_aload_n (n := 212) O dL_law_211 rfl rfl rfl ?_
  refine l_arg (j := 1) (n := 217) O g dL_law_212 dL_law_213 dL_law_214 (by decide) dL_law_215 dL_law_216 (by omega) rfl ?_
  refine l_callF (c := 0) (ci := 6) (As := [.int (xs (i + 1))]) (n := 220) O g dL_law_217 ul_L_18 um_X6_end (fun _ hQ => f_X6_end g.1 hC hQ) rfl (by decide) hC.obj rfl rfl rfl (Nat.le_trans (by decide) hd) (Nat.le_of_ble_eq_true rfl) rfl (fun M1 hC1 s1 => ?_)
  have hM1 := hM.kp (kp_sm s1 (by omega))
  refine l_aload_n (n := 221) O dL_law_220 rfl rfl rfl ?_
  refine l_arg (j := 1) (n := 226) O g dL_law_221 dL_law_222 dL_law_223 (by decide) dL_law_224 dL_law_225 (by omega) rfl ?_
  refine l_callF (c := 49) (ci := 7) (As := [.int (xs (i + 1))]) (n := 229) O g dL_law_226 ul_L_21 um_X7_end (fun _ hQ => f_X7_end g.1 hC.2.2.1 hM1 hQ) rfl (by decide) hM1.obj rfl rfl rfl (Nat.le_trans (by decide) hd) (Nat.le_of_ble_eq_true rfl) rfl (fun M2 hM2 s2 => ?_)
  have hk := hk M2 ⟨_, _, _, _, _, _, _, _, _, _, _, _, hC1.kp s2, hM2⟩
  exact l_icmp_eq (tgt := 1135) (n := 232) O dL_law_229 (by decide) rfl (fun _ => hk) (fun q => absurd rfl q)
set_option maxRecDepth 20000 in
theorem law_text {G : gb_G} {X : gb_X} {A : Nat → Prop} {d : Nat} {Q : State → Prop} {kc ks b L i : Nat} {xs : Nat → Int32} {M : gb_M} (O : gC G X A code 4 RL d) (hd : 11 ≤ d) (g : gL G X A b L xs kc ks) (hi : i + 4 < L) (hI : iL G M) (hk : ∀ M', iL G M' → Wl G X A 4 Q 1135 (lvL G b i) [] (gb_pl (gb_ad G) (gb_N G) M') kc ks) : Wl G X A 4 Q 234 (lvL G b i) [] (gb_pl (gb_ad G) (gb_N G) M) kc ks := by
  obtain ⟨T, im, kp, bs, ln, fa, st, sf, sn, sh, sc, tn, hC, hM⟩ := hI
  refine l_aload_n (n := 235) O dL_law_234 rfl rfl rfl ?_
  refine l_callF (c := 0) (ci := 6) (As := []) (n := 238) O g dL_law_235 ul_L_22 um_X6_text (fun _ hQ => f_X6_text g.1 hC hQ) rfl (by decide) hC.obj rfl rfl rfl (Nat.le_trans (by decide) hd) (Nat.le_of_ble_eq_true rfl) rfl (fun M1 hC1 s1 => ?_)
  have hM1 := hM.kp (kp_sm s1 (by omega))
  refine l_aload_n (n := 239) O dL_law_238 rfl rfl rfl ?_
  refine l_callF (c := 49) (ci := 7) (As := []) (n := 242) O g dL_law_239 ul_L_26 um_X7_text (fun _ hQ => f_X7_text g.1 hC.2.2.1 hM1 hQ) rfl (by decide) hM1.obj rfl rfl rfl (Nat.le_trans (by decide) hd) (Nat.le_of_ble_eq_true rfl) rfl (fun M2 hM2 s2 => ?_)
  have hk := hk M2 ⟨_, _, _, _, _, _, _, _, _, _, _, _, hC1.kp s2, hM2⟩
  exact l_icmp_eq (tgt := 1135) (n := 245) O dL_law_242 (by decide) rfl (fun _ => hk) (fun q => absurd rfl q)
set_option maxRecDepth 20000 in
theorem law_fault {G : gb_G} {X : gb_X} {A : Nat → Prop} {d : Nat} {Q : State → Prop} {kc ks b L i : Nat} {xs : Nat → Int32} {M : gb_M} (O : gC G X A code 4 RL d) (hd : 11 ≤ d) (g : gL G X A b L xs kc ks) (hi : i + 4 < L) (hI : iL G M) (hk : ∀ M', iL G M' → Wl G X A 4 Q 1135 (lvL G b i) [] (gb_pl (gb_ad G) (gb_N G) M') kc ks) : Wl G X A 4 Q 247 (lvL G b i) [] (gb_pl (gb_ad G) (gb_N G) M) kc ks := by
  obtain ⟨T, im, kp, bs, ln, fa, st, sf, sn, sh, sc, tn, hC, hM⟩ := hI
  refine l_aload_n (n := 248) O dL_law_247 rfl rfl rfl ?_
  refine l_callF (c := 0) (ci := 6) (As := []) (n := 251) O g dL_law_248 ul_L_27 um_X6_fault (fun _ hQ => f_X6_fault g.1 hC hQ) rfl (by decide) hC.obj rfl rfl rfl (Nat.le_trans (by decide) hd) (Nat.le_of_ble_eq_true rfl) rfl (fun M1 hC1 s1 => ?_)
  have hM1 := hM.kp (kp_sm s1 (by omega))
  refine l_aload_n (n := 252) O dL_law_251 rfl rfl rfl ?_
  refine l_callF (c := 49) (ci := 7) (As := []) (n := 255) O g dL_law_252 ul_L_30 um_X7_fault (fun _ hQ => f_X7_fault g.1 hC.2.2.1 hM1 hQ) rfl (by decide) hM1.obj rfl rfl rfl (Nat.le_trans (by decide) hd) (Nat.le_of_ble_eq_true rfl) rfl (fun M2 hM2 s2 => ?_)
  have hk := hk M2 ⟨_, _, _, _, _, _, _, _, _, _, _, _, hC1.kp s2, hM2⟩
  exact l_icmp_eq (tgt := 1135) (n := 258) O dL_law_255 (by decide) rfl (fun _ => hk) (fun q => absurd rfl q)
set_option maxRecDepth 20000 in
theorem law_rule {G : gb_G} {X : gb_X} {A : Nat → Prop} {d : Nat} {Q : State → Prop} {kc ks b L i : Nat} {xs : Nat → Int32} {M : gb_M} (O : gC G X A code 4 RL d) (hd : 11 ≤ d) (g : gL G X A b L xs kc ks) (hi : i + 4 < L) (hI : iL G M) (hk : ∀ M', iL G M' → Wl G X A 4 Q 1135 (lvL G b i) [] (gb_pl (gb_ad G) (gb_N G) M') kc ks) : Wl G X A 4 Q 260 (lvL G b i) [] (gb_pl (gb_ad G) (gb_N G) M) kc ks := by
  obtain ⟨T, im, kp, bs, ln, fa, st, sf, sn, sh, sc, tn, hC, hM⟩ := hI
  refine l_aload_n (n := 261) O dL_law_260 rfl rfl rfl ?_
  refine l_arg (j := 1) (n := 266) O g dL_law_261 dL_law_262 dL_law_263 (by decide) dL_law_264 dL_law_265 (by omega) rfl ?_
  refine l_callF (c := 0) (ci := 6) (As := [.int (xs (i + 1))]) (n := 269) O g dL_law_266 ul_L_31 um_X6_rule (fun _ hQ => f_X6_rule g.1 hC hQ) rfl (by decide) hC.obj rfl rfl rfl (Nat.le_trans (by decide) hd) (Nat.le_of_ble_eq_true rfl) rfl (fun M1 hC1 s1 => ?_)
  have hM1 := hM.kp (kp_sm s1 (by omega))
  refine l_aload_n (n := 270) O dL_law_269 rfl rfl rfl ?_
  refine l_arg (j := 1) (n := 275) O g dL_law_270 dL_law_271 dL_law_272 (by decide) dL_law_273 dL_law_274 (by omega) rfl ?_
  refine l_callF (c := 49) (ci := 7) (As := [.int (xs (i + 1))]) (n := 278) O g dL_law_275 ul_L_34 um_X7_rule (fun _ hQ => f_X7_rule g.1 hC.2.2.1 hM1 hQ) rfl (by decide) hM1.obj rfl rfl rfl (Nat.le_trans (by decide) hd) (Nat.le_of_ble_eq_true rfl) rfl (fun M2 hM2 s2 => ?_)
  have hk := hk M2 ⟨_, _, _, _, _, _, _, _, _, _, _, _, hC1.kp s2, hM2⟩
  exact l_icmp_eq (tgt := 1135) (n := 281) O dL_law_278 (by decide) rfl (fun _ => hk) (fun q => absurd rfl q)
set_option maxRecDepth 20000 in
theorem law_giver {G : gb_G} {X : gb_X} {A : Nat → Prop} {d : Nat} {Q : State → Prop} {kc ks b L i : Nat} {xs : Nat → Int32} {M : gb_M} (O : gC G X A code 4 RL d) (hd : 11 ≤ d) (g : gL G X A b L xs kc ks) (hi : i + 4 < L) (hI : iL G M) (hk : ∀ M', iL G M' → Wl G X A 4 Q 1135 (lvL G b i) [] (gb_pl (gb_ad G) (gb_N G) M') kc ks) : Wl G X A 4 Q 283 (lvL G b i) [] (gb_pl (gb_ad G) (gb_N G) M) kc ks := by
  obtain ⟨T, im, kp, bs, ln, fa, st, sf, sn, sh, sc, tn, hC, hM⟩ := hI
  refine l_aload_n (n := 284) O dL_law_283 rfl rfl rfl ?_
  refine l_arg (j := 1) (n := 289) O g dL_law_284 dL_law_285 dL_law_286 (by decide) dL_law_287 dL_law_288 (by omega) rfl ?_
  refine l_arg (j := 2) (n := 294) O g dL_law_289 dL_law_290 dL_law_291 (by decide) dL_law_292 dL_law_293 (by omega) rfl ?_
  refine l_callF (c := 0) (ci := 6) (As := [.int (xs (i + 1)), .int (xs (i + 2))]) (n := 297) O g dL_law_294 ul_L_35 um_X6_giver (fun _ hQ => f_X6_giver g.1 hC hQ) rfl (by decide) hC.obj rfl rfl rfl (Nat.le_trans (by decide) hd) (Nat.le_of_ble_eq_true rfl) rfl (fun M1 hC1 s1 => ?_)
  have hM1 := hM.kp (kp_sm s1 (by omega))
  refine l_aload_n (n := 298) O dL_law_297 rfl rfl rfl ?_
  refine l_arg (j := 1) (n := 303) O g dL_law_298 dL_law_299 dL_law_300 (by decide) dL_law_301 dL_law_302 (by omega) rfl ?_
  refine l_arg (j := 2) (n := 308) O g dL_law_303 dL_law_304 dL_law_305 (by decide) dL_law_306 dL_law_307 (by omega) rfl ?_
  refine l_callF (c := 49) (ci := 7) (As := [.int (xs (i + 1)), .int (xs (i + 2))]) (n := 311) O g dL_law_308 ul_L_39 um_X7_giver (fun _ hQ => f_X7_giver g.1 hC.2.2.1 hM1 hQ) rfl (by decide) hM1.obj rfl rfl rfl (Nat.le_trans (by decide) hd) (Nat.le_of_ble_eq_true rfl) rfl (fun M2 hM2 s2 => ?_)
  have hk := hk M2 ⟨_, _, _, _, _, _, _, _, _, _, _, _, hC1.kp s2, hM2⟩
  exact l_icmp_eq (tgt := 1135) (n := 314) O dL_law_311 (by decide) rfl (fun _ => hk) (fun q => absurd rfl q)
set_option maxRecDepth 20000 in
theorem law_metal {G : gb_G} {X : gb_X} {A : Nat → Prop} {d : Nat} {Q : State → Prop} {kc ks b L i : Nat} {xs : Nat → Int32} {M : gb_M} (O : gC G X A code 4 RL d) (hd : 11 ≤ d) (g : gL G X A b L xs kc ks) (hi : i + 4 < L) (hI : iL G M) (hk : ∀ M', iL G M' → Wl G X A 4 Q 1135 (lvL G b i) [] (gb_pl (gb_ad G) (gb_N G) M') kc ks) : Wl G X A 4 Q 316 (lvL G b i) [] (gb_pl (gb_ad G) (gb_N G) M) kc ks := by
  obtain ⟨T, im, kp, bs, ln, fa, st, sf, sn, sh, sc, tn, hC, hM⟩ := hI
  refine l_aload_n (n := 317) O dL_law_316 rfl rfl rfl ?_
  refine l_arg (j := 1) (n := 322) O g dL_law_317 dL_law_318 dL_law_319 (by decide) dL_law_320 dL_law_321 (by omega) rfl ?_
  refine l_arg (j := 2) (n := 327) O g dL_law_322 dL_law_323 dL_law_324 (by decide) dL_law_325 dL_law_326 (by omega) rfl ?_
  refine l_callF (c := 0) (ci := 6) (As := [.int (xs (i + 1)), .int (xs (i + 2))]) (n := 330) O g dL_law_327 ul_L_40 um_X6_metal (fun _ hQ => f_X6_metal g.1 hC hQ) rfl (by decide) hC.obj rfl rfl rfl (Nat.le_trans (by decide) hd) (Nat.le_of_ble_eq_true rfl) rfl (fun M1 hC1 s1 => ?_)
  have hM1 := hM.kp (kp_sm s1 (by omega))
  refine l_aload_n (n := 331) O dL_law_330 rfl rfl rfl ?_
  refine l_arg (j := 1) (n := 336) O g dL_law_331 dL_law_332 dL_law_333 (by decide) dL_law_334 dL_law_335 (by omega) rfl ?_
  refine l_arg (j := 2) (n := 341) O g dL_law_336 dL_law_337 dL_law_338 (by decide) dL_law_339 dL_law_340 (by omega) rfl ?_
  refine l_callF (c := 49) (ci := 7) (As := [.int (xs (i + 1)), .int (xs (i + 2))]) (n := 344) O g dL_law_341 ul_L_43 um_X7_metal (fun _ hQ => f_X7_metal g.1 hC.2.2.1 hM1 hQ) rfl (by decide) hM1.obj rfl rfl rfl (Nat.le_trans (by decide) hd) (Nat.le_of_ble_eq_true rfl) rfl (fun M2 hM2 s2 => ?_)
  have hk := hk M2 ⟨_, _, _, _, _, _, _, _, _, _, _, _, hC1.kp s2, hM2⟩
  exact l_icmp_eq (tgt := 1135) (n := 347) O dL_law_344 (by decide) rfl (fun _ => hk) (fun q => absurd rfl q)
set_option maxRecDepth 20000 in
theorem law_bell {G : gb_G} {X : gb_X} {A : Nat → Prop} {d : Nat} {Q : State → Prop} {kc ks b L i : Nat} {xs : Nat → Int32} {M : gb_M} (O : gC G X A code 4 RL d) (hd : 11 ≤ d) (g : gL G X A b L xs kc ks) (hi : i + 4 < L) (hI : iL G M) (hk : ∀ M', iL G M' → Wl G X A 4 Q 1135 (lvL G b i) [] (gb_pl (gb_ad G) (gb_N G) M') kc ks) : Wl G X A 4 Q 349 (lvL G b i) [] (gb_pl (gb_ad G) (gb_N G) M) kc ks := by
  obtain ⟨T, im, kp, bs, ln, fa, st, sf, sn, sh, sc, tn, hC, hM⟩ := hI
  refine l_aload_n (n := 350) O dL_law_349 rfl rfl rfl ?_
  refine l_arg (j := 1) (n := 355) O g dL_law_350 dL_law_351 dL_law_352 (by decide) dL_law_353 dL_law_354 (by omega) rfl ?_
  refine l_callF (c := 0) (ci := 6) (As := [.int (xs (i + 1))]) (n := 358) O g dL_law_355 ul_L_44 um_X6_bell (fun _ hQ => f_X6_bell g.1 hC hQ) rfl (by decide) hC.obj rfl rfl rfl (Nat.le_trans (by decide) hd) (Nat.le_of_ble_eq_true rfl) rfl (fun M1 hC1 s1 => ?_)
  have hM1 := hM.kp (kp_sm s1 (by omega))
  refine l_aload_n (n := 359) O dL_law_358 rfl rfl rfl ?_
  refine l_arg (j := 1) (n := 364) O g dL_law_359 dL_law_360 dL_law_361 (by decide) dL_law_362 dL_law_363 (by omega) rfl ?_
  refine l_callF (c := 49) (ci := 7) (As := [.int (xs (i + 1))]) (n := 367) O g dL_law_364 ul_L_47 um_X7_bell (fun _ hQ => f_X7_bell g.1 hC.2.2.1 hM1 hQ) rfl (by decide) hM1.obj rfl rfl rfl (Nat.le_trans (by decide) hd) (Nat.le_of_ble_eq_true rfl) rfl (fun M2 hM2 s2 => ?_)
  have hk := hk M2 ⟨_, _, _, _, _, _, _, _, _, _, _, _, hC1.kp s2, hM2⟩
  exact l_icmp_eq (tgt := 1135) (n := 370) O dL_law_367 (by decide) rfl (fun _ => hk) (fun q => absurd rfl q)
set_option maxRecDepth 20000 in
theorem law_tap {G : gb_G} {X : gb_X} {A : Nat → Prop} {d : Nat} {Q : State → Prop} {kc ks b L i : Nat} {xs : Nat → Int32} {M : gb_M} (O : gC G X A code 4 RL d) (hd : 11 ≤ d) (g : gL G X A b L xs kc ks) (hi : i + 4 < L) (hI : iL G M) (hk : ∀ M', iL G M' → Wl G X A 4 Q 1135 (lvL G b i) [] (gb_pl (gb_ad G) (gb_N G) M') kc ks) : Wl G X A 4 Q 372 (lvL G b i) [] (gb_pl (gb_ad G) (gb_N G) M) kc ks := by
  obtain ⟨T, im, kp, bs, ln, fa, st, sf, sn, sh, sc, tn, hC, hM⟩ := hI
  refine l_aload_n (n := 373) O dL_law_372 rfl rfl rfl ?_
  refine l_arg (j := 1) (n := 378) O g dL_law_373 dL_law_374 dL_law_375 (by decide) dL_law_376 dL_law_377 (by omega) rfl ?_
  refine l_callF (c := 0) (ci := 6) (As := [.int (xs (i + 1))]) (n := 381) O g dL_law_378 ul_L_48 um_X6_tap (fun _ hQ => f_X6_tap g.1 hC hQ) rfl (by decide) hC.obj rfl rfl rfl (Nat.le_trans (by decide) hd) (Nat.le_of_ble_eq_true rfl) rfl (fun M1 hC1 s1 => ?_)
  have hM1 := hM.kp (kp_sm s1 (by omega))
  refine l_aload_n (n := 382) O dL_law_381 rfl rfl rfl ?_
  refine l_arg (j := 1) (n := 387) O g dL_law_382 dL_law_383 dL_law_384 (by decide) dL_law_385 dL_law_386 (by omega) rfl ?_
  refine l_callF (c := 49) (ci := 7) (As := [.int (xs (i + 1))]) (n := 390) O g dL_law_387 ul_L_51 um_X7_tap (fun _ hQ => f_X7_tap g.1 hC.2.2.1 hM1 hQ) rfl (by decide) hM1.obj rfl rfl rfl (Nat.le_trans (by decide) hd) (Nat.le_of_ble_eq_true rfl) rfl (fun M2 hM2 s2 => ?_)
  have hk := hk M2 ⟨_, _, _, _, _, _, _, _, _, _, _, _, hC1.kp s2, hM2⟩
  exact l_icmp_eq (tgt := 1135) (n := 393) O dL_law_390 (by decide) rfl (fun _ => hk) (fun q => absurd rfl q)
set_option maxRecDepth 20000 in
theorem law_alter {G : gb_G} {X : gb_X} {A : Nat → Prop} {d : Nat} {Q : State → Prop} {kc ks b L i : Nat} {xs : Nat → Int32} {M : gb_M} (O : gC G X A code 4 RL d) (hd : 11 ≤ d) (g : gL G X A b L xs kc ks) (hi : i + 4 < L) (hI : iL G M) (hk : ∀ M', iL G M' → Wl G X A 4 Q 1135 (lvL G b i) [] (gb_pl (gb_ad G) (gb_N G) M') kc ks) : Wl G X A 4 Q 395 (lvL G b i) [] (gb_pl (gb_ad G) (gb_N G) M) kc ks := by
  obtain ⟨T, im, kp, bs, ln, fa, st, sf, sn, sh, sc, tn, hC, hM⟩ := hI
  refine l_aload_n (n := 396) O dL_law_395 rfl rfl rfl ?_
  refine l_arg (j := 1) (n := 401) O g dL_law_396 dL_law_397 dL_law_398 (by decide) dL_law_399 dL_law_400 (by omega) rfl ?_
  refine l_arg (j := 2) (n := 406) O g dL_law_401 dL_law_402 dL_law_403 (by decide) dL_law_404 dL_law_405 (by omega) rfl ?_
  refine l_arg (j := 3) (n := 411) O g dL_law_406 dL_law_407 dL_law_408 (by decide) dL_law_409 dL_law_410 (by omega) rfl ?_
  refine l_callF (c := 0) (ci := 6) (As := [.int (xs (i + 1)), .int (xs (i + 2)), .int (xs (i + 3))]) (n := 414) O g dL_law_411 ul_L_52 um_X6_alter (fun _ hQ => f_X6_alter g.1 hC hQ) rfl (by decide) hC.obj rfl rfl rfl (Nat.le_trans (by decide) hd) (Nat.le_of_ble_eq_true rfl) rfl (fun M1 hC1 s1 => ?_)
  have hM1 := hM.kp (kp_sm s1 (by omega))
  refine l_aload_n (n := 415) O dL_law_414 rfl rfl rfl ?_
  refine l_arg (j := 1) (n := 420) O g dL_law_415 dL_law_416 dL_law_417 (by decide) dL_law_418 dL_law_419 (by omega) rfl ?_
  refine l_arg (j := 2) (n := 425) O g dL_law_420 dL_law_421 dL_law_422 (by decide) dL_law_423 dL_law_424 (by omega) rfl ?_
  refine l_arg (j := 3) (n := 430) O g dL_law_425 dL_law_426 dL_law_427 (by decide) dL_law_428 dL_law_429 (by omega) rfl ?_
  refine l_callF (c := 49) (ci := 7) (As := [.int (xs (i + 1)), .int (xs (i + 2)), .int (xs (i + 3))]) (n := 433) O g dL_law_430 ul_L_56 um_X7_alter (fun _ hQ => f_X7_alter g.1 hC.2.2.1 hM1 hQ) rfl (by decide) hM1.obj rfl rfl rfl (Nat.le_trans (by decide) hd) (Nat.le_of_ble_eq_true rfl) rfl (fun M2 hM2 s2 => ?_)
  have hk := hk M2 ⟨_, _, _, _, _, _, _, _, _, _, _, _, hC1.kp s2, hM2⟩
  exact l_icmp_eq (tgt := 1135) (n := 436) O dL_law_433 (by decide) rfl (fun _ => hk) (fun q => absurd rfl q)
set_option maxRecDepth 20000 in
theorem law_add {G : gb_G} {X : gb_X} {A : Nat → Prop} {d : Nat} {Q : State → Prop} {kc ks b L i : Nat} {xs : Nat → Int32} {M : gb_M} (O : gC G X A code 4 RL d) (hd : 11 ≤ d) (g : gL G X A b L xs kc ks) (hi : i + 4 < L) (hI : iL G M) (hk : ∀ M', iL G M' → Wl G X A 4 Q 1135 (lvL G b i) [] (gb_pl (gb_ad G) (gb_N G) M') kc ks) : Wl G X A 4 Q 438 (lvL G b i) [] (gb_pl (gb_ad G) (gb_N G) M) kc ks := by
  obtain ⟨T, im, kp, bs, ln, fa, st, sf, sn, sh, sc, tn, hC, hM⟩ := hI
  refine l_aload_n (n := 439) O dL_law_438 rfl rfl rfl ?_
  refine l_arg (j := 1) (n := 444) O g dL_law_439 dL_law_440 dL_law_441 (by decide) dL_law_442 dL_law_443 (by omega) rfl ?_
  refine l_arg (j := 2) (n := 449) O g dL_law_444 dL_law_445 dL_law_446 (by decide) dL_law_447 dL_law_448 (by omega) rfl ?_
  refine l_callF (c := 0) (ci := 6) (As := [.int (xs (i + 1)), .int (xs (i + 2))]) (n := 452) O g dL_law_449 ul_L_57 um_X6_add (fun _ hQ => f_X6_add g.1 hC hQ) rfl (by decide) hC.obj rfl rfl rfl (Nat.le_trans (by decide) hd) (Nat.le_of_ble_eq_true rfl) rfl (fun M1 hC1 s1 => ?_)
  have hM1 := hM.kp (kp_sm s1 (by omega))
  refine l_aload_n (n := 453) O dL_law_452 rfl rfl rfl ?_
  refine l_arg (j := 1) (n := 458) O g dL_law_453 dL_law_454 dL_law_455 (by decide) dL_law_456 dL_law_457 (by omega) rfl ?_
  refine l_arg (j := 2) (n := 463) O g dL_law_458 dL_law_459 dL_law_460 (by decide) dL_law_461 dL_law_462 (by omega) rfl ?_
  refine l_callF (c := 49) (ci := 7) (As := [.int (xs (i + 1)), .int (xs (i + 2))]) (n := 466) O g dL_law_463 ul_L_60 um_X7_add (fun _ hQ => f_X7_add g.1 hC.2.2.1 hM1 hQ) rfl (by decide) hM1.obj rfl rfl rfl (Nat.le_trans (by decide) hd) (Nat.le_of_ble_eq_true rfl) rfl (fun M2 hM2 s2 => ?_)
  have hk := hk M2 ⟨_, _, _, _, _, _, _, _, _, _, _, _, hC1.kp s2, hM2⟩
  exact l_icmp_eq (tgt := 1135) (n := 469) O dL_law_466 (by decide) rfl (fun _ => hk) (fun q => absurd rfl q)
set_option maxRecDepth 20000 in
theorem law_ask {G : gb_G} {X : gb_X} {A : Nat → Prop} {d : Nat} {Q : State → Prop} {kc ks b L i : Nat} {xs : Nat → Int32} {M : gb_M} (O : gC G X A code 4 RL d) (hd : 11 ≤ d) (g : gL G X A b L xs kc ks) (hi : i + 4 < L) (hI : iL G M) (hk : ∀ M', iL G M' → Wl G X A 4 Q 1135 (lvL G b i) [] (gb_pl (gb_ad G) (gb_N G) M') kc ks) : Wl G X A 4 Q 471 (lvL G b i) [] (gb_pl (gb_ad G) (gb_N G) M) kc ks := by
  obtain ⟨T, im, kp, bs, ln, fa, st, sf, sn, sh, sc, tn, hC, hM⟩ := hI
  refine l_aload_n (n := 472) O dL_law_471 rfl rfl rfl ?_
  refine l_arg (j := 1) (n := 477) O g dL_law_472 dL_law_473 dL_law_474 (by decide) dL_law_475 dL_law_476 (by omega) rfl ?_
  refine l_arg (j := 2) (n := 482) O g dL_law_477 dL_law_478 dL_law_479 (by decide) dL_law_480 dL_law_481 (by omega) rfl ?_
  refine l_callF (c := 0) (ci := 6) (As := [.int (xs (i + 1)), .int (xs (i + 2))]) (n := 485) O g dL_law_482 ul_L_61 um_X6_ask (fun _ hQ => f_X6_ask g.1 hC hQ) rfl (by decide) hC.obj rfl rfl rfl (Nat.le_trans (by decide) hd) (Nat.le_of_ble_eq_true rfl) rfl (fun M1 hC1 s1 => ?_)
  have hM1 := hM.kp (kp_sm s1 (by omega))
  refine l_aload_n (n := 486) O dL_law_485 rfl rfl rfl ?_
  refine l_arg (j := 1) (n := 491) O g dL_law_486 dL_law_487 dL_law_488 (by decide) dL_law_489 dL_law_490 (by omega) rfl ?_
  refine l_arg (j := 2) (n := 496) O g dL_law_491 dL_law_492 dL_law_493 (by decide) dL_law_494 dL_law_495 (by omega) rfl ?_
  refine l_callF (c := 49) (ci := 7) (As := [.int (xs (i + 1)), .int (xs (i + 2))]) (n := 499) O g dL_law_496 ul_L_64 um_X7_ask (fun _ hQ => f_X7_ask g.1 hC.2.2.1 hM1 hQ) rfl (by decide) hM1.obj rfl rfl rfl (Nat.le_trans (by decide) hd) (Nat.le_of_ble_eq_true rfl) rfl (fun M2 hM2 s2 => ?_)
  have hk := hk M2 ⟨_, _, _, _, _, _, _, _, _, _, _, _, hC1.kp s2, hM2⟩
  exact l_icmp_eq (tgt := 1135) (n := 502) O dL_law_499 (by decide) rfl (fun _ => hk) (fun q => absurd rfl q)
set_option maxRecDepth 20000 in
theorem law_ring {G : gb_G} {X : gb_X} {A : Nat → Prop} {d : Nat} {Q : State → Prop} {kc ks b L i : Nat} {xs : Nat → Int32} {M : gb_M} (O : gC G X A code 4 RL d) (hd : 11 ≤ d) (g : gL G X A b L xs kc ks) (hi : i + 4 < L) (hI : iL G M) (hk : ∀ M', iL G M' → Wl G X A 4 Q 1135 (lvL G b i) [] (gb_pl (gb_ad G) (gb_N G) M') kc ks) : Wl G X A 4 Q 504 (lvL G b i) [] (gb_pl (gb_ad G) (gb_N G) M) kc ks := by
  obtain ⟨T, im, kp, bs, ln, fa, st, sf, sn, sh, sc, tn, hC, hM⟩ := hI
  refine l_aload_n (n := 505) O dL_law_504 rfl rfl rfl ?_
  refine l_arg (j := 1) (n := 510) O g dL_law_505 dL_law_506 dL_law_507 (by decide) dL_law_508 dL_law_509 (by omega) rfl ?_
  refine l_callF (c := 0) (ci := 6) (As := [.int (xs (i + 1))]) (n := 513) O g dL_law_510 ul_L_65 um_X6_ring (fun _ hQ => f_X6_ring g.1 hC hQ) rfl (by decide) hC.obj rfl rfl rfl (Nat.le_trans (by decide) hd) (Nat.le_of_ble_eq_true rfl) rfl (fun M1 hC1 s1 => ?_)
  have hM1 := hM.kp (kp_sm s1 (by omega))
  refine l_aload_n (n := 514) O dL_law_513 rfl rfl rfl ?_
  refine l_arg (j := 1) (n := 519) O g dL_law_514 dL_law_515 dL_law_516 (by decide) dL_law_517 dL_law_518 (by omega) rfl ?_
  refine l_callF (c := 49) (ci := 7) (As := [.int (xs (i + 1))]) (n := 522) O g dL_law_519 ul_L_68 um_X7_ring (fun _ hQ => f_X7_ring g.1 hC.2.2.1 hM1 hQ) rfl (by decide) hM1.obj rfl rfl rfl (Nat.le_trans (by decide) hd) (Nat.le_of_ble_eq_true rfl) rfl (fun M2 hM2 s2 => ?_)
  have hk := hk M2 ⟨_, _, _, _, _, _, _, _, _, _, _, _, hC1.kp s2, hM2⟩
  exact l_icmp_eq (tgt := 1135) (n := 525) O dL_law_522 (by decide) rfl (fun _ => hk) (fun q => absurd rfl q)
set_option maxRecDepth 20000 in
theorem law_mine {G : gb_G} {X : gb_X} {A : Nat → Prop} {d : Nat} {Q : State → Prop} {kc ks b L i : Nat} {xs : Nat → Int32} {M : gb_M} (O : gC G X A code 4 RL d) (hd : 11 ≤ d) (g : gL G X A b L xs kc ks) (hi : i + 4 < L) (hI : iL G M) (hk : ∀ M', iL G M' → Wl G X A 4 Q 1135 (lvL G b i) [] (gb_pl (gb_ad G) (gb_N G) M') kc ks) : Wl G X A 4 Q 527 (lvL G b i) [] (gb_pl (gb_ad G) (gb_N G) M) kc ks := by
  obtain ⟨T, im, kp, bs, ln, fa, st, sf, sn, sh, sc, tn, hC, hM⟩ := hI
  refine l_aload_n (n := 528) O dL_law_527 rfl rfl rfl ?_
  refine l_arg (j := 1) (n := 533) O g dL_law_528 dL_law_529 dL_law_530 (by decide) dL_law_531 dL_law_532 (by omega) rfl ?_
  refine l_callF (c := 0) (ci := 6) (As := [.int (xs (i + 1))]) (n := 536) O g dL_law_533 ul_L_69 um_X6_mine (fun _ hQ => f_X6_mine g.1 hC hQ) rfl (by decide) hC.obj rfl rfl rfl (Nat.le_trans (by decide) hd) (Nat.le_of_ble_eq_true rfl) rfl (fun M1 hC1 s1 => ?_)
  have hM1 := hM.kp (kp_sm s1 (by omega))
  refine l_aload_n (n := 537) O dL_law_536 rfl rfl rfl ?_
  refine l_arg (j := 1) (n := 542) O g dL_law_537 dL_law_538 dL_law_539 (by decide) dL_law_540 dL_law_541 (by omega) rfl ?_
  refine l_callF (c := 49) (ci := 7) (As := [.int (xs (i + 1))]) (n := 545) O g dL_law_542 ul_L_72 um_X7_mine (fun _ hQ => f_X7_mine g.1 hC.2.2.1 hM1 hQ) rfl (by decide) hM1.obj rfl rfl rfl (Nat.le_trans (by decide) hd) (Nat.le_of_ble_eq_true rfl) rfl (fun M2 hM2 s2 => ?_)
  have hk := hk M2 ⟨_, _, _, _, _, _, _, _, _, _, _, _, hC1.kp s2, hM2⟩
  exact l_icmp_eq (tgt := 1135) (n := 548) O dL_law_545 (by decide) rfl (fun _ => hk) (fun q => absurd rfl q)
set_option maxRecDepth 20000 in
theorem law_least {G : gb_G} {X : gb_X} {A : Nat → Prop} {d : Nat} {Q : State → Prop} {kc ks b L i : Nat} {xs : Nat → Int32} {M : gb_M} (O : gC G X A code 4 RL d) (hd : 11 ≤ d) (g : gL G X A b L xs kc ks) (hi : i + 4 < L) (hI : iL G M) (hk : ∀ M', iL G M' → Wl G X A 4 Q 1135 (lvL G b i) [] (gb_pl (gb_ad G) (gb_N G) M') kc ks) : Wl G X A 4 Q 550 (lvL G b i) [] (gb_pl (gb_ad G) (gb_N G) M) kc ks := by
  obtain ⟨T, im, kp, bs, ln, fa, st, sf, sn, sh, sc, tn, hC, hM⟩ := hI
  refine l_aload_n (n := 551) O dL_law_550 rfl rfl rfl ?_
  refine l_arg (j := 1) (n := 556) O g dL_law_551 dL_law_552 dL_law_553 (by decide) dL_law_554 dL_law_555 (by omega) rfl ?_
  refine l_callF (c := 0) (ci := 6) (As := [.int (xs (i + 1))]) (n := 559) O g dL_law_556 ul_L_73 um_X6_least (fun _ hQ => f_X6_least g.1 hC hQ) rfl (by decide) hC.obj rfl rfl rfl (Nat.le_trans (by decide) hd) (Nat.le_of_ble_eq_true rfl) rfl (fun M1 hC1 s1 => ?_)
  have hM1 := hM.kp (kp_sm s1 (by omega))
  refine l_aload_n (n := 560) O dL_law_559 rfl rfl rfl ?_
  refine l_arg (j := 1) (n := 565) O g dL_law_560 dL_law_561 dL_law_562 (by decide) dL_law_563 dL_law_564 (by omega) rfl ?_
  refine l_callF (c := 49) (ci := 7) (As := [.int (xs (i + 1))]) (n := 568) O g dL_law_565 ul_L_76 um_X7_least (fun _ hQ => f_X7_least g.1 hC.2.2.1 hM1 hQ) rfl (by decide) hM1.obj rfl rfl rfl (Nat.le_trans (by decide) hd) (Nat.le_of_ble_eq_true rfl) rfl (fun M2 hM2 s2 => ?_)
  have hk := hk M2 ⟨_, _, _, _, _, _, _, _, _, _, _, _, hC1.kp s2, hM2⟩
  exact l_icmp_eq (tgt := 1135) (n := 571) O dL_law_568 (by decide) rfl (fun _ => hk) (fun q => absurd rfl q)
set_option maxRecDepth 20000 in
theorem law_casts {G : gb_G} {X : gb_X} {A : Nat → Prop} {d : Nat} {Q : State → Prop} {kc ks b L i : Nat} {xs : Nat → Int32} {M : gb_M} (O : gC G X A code 4 RL d) (hd : 11 ≤ d) (g : gL G X A b L xs kc ks) (hi : i + 4 < L) (hI : iL G M) (hk : ∀ M', iL G M' → Wl G X A 4 Q 1135 (lvL G b i) [] (gb_pl (gb_ad G) (gb_N G) M') kc ks) : Wl G X A 4 Q 573 (lvL G b i) [] (gb_pl (gb_ad G) (gb_N G) M) kc ks := by
  obtain ⟨T, im, kp, bs, ln, fa, st, sf, sn, sh, sc, tn, hC, hM⟩ := hI
  refine l_aload_n (n := 574) O dL_law_573 rfl rfl rfl ?_
  refine l_arg (j := 1) (n := 579) O g dL_law_574 dL_law_575 dL_law_576 (by decide) dL_law_577 dL_law_578 (by omega) rfl ?_
  refine l_callF (c := 0) (ci := 6) (As := [.int (xs (i + 1))]) (n := 582) O g dL_law_579 ul_L_77 um_X6_casts (fun _ hQ => f_X6_casts g.1 hC hQ) rfl (by decide) hC.obj rfl rfl rfl (Nat.le_trans (by decide) hd) (Nat.le_of_ble_eq_true rfl) rfl (fun M1 hC1 s1 => ?_)
  have hM1 := hM.kp (kp_sm s1 (by omega))
  refine l_aload_n (n := 583) O dL_law_582 rfl rfl rfl ?_
  refine l_arg (j := 1) (n := 588) O g dL_law_583 dL_law_584 dL_law_585 (by decide) dL_law_586 dL_law_587 (by omega) rfl ?_
  refine l_callF (c := 49) (ci := 7) (As := [.int (xs (i + 1))]) (n := 591) O g dL_law_588 ul_L_80 um_X7_casts (fun _ hQ => f_X7_casts g.1 hC.2.2.1 hM1 hQ) rfl (by decide) hM1.obj rfl rfl rfl (Nat.le_trans (by decide) hd) (Nat.le_of_ble_eq_true rfl) rfl (fun M2 hM2 s2 => ?_)
  have hk := hk M2 ⟨_, _, _, _, _, _, _, _, _, _, _, _, hC1.kp s2, hM2⟩
  exact l_icmp_eq (tgt := 1135) (n := 594) O dL_law_591 (by decide) rfl (fun _ => hk) (fun q => absurd rfl q)
set_option maxRecDepth 20000 in
theorem law_spare {G : gb_G} {X : gb_X} {A : Nat → Prop} {d : Nat} {Q : State → Prop} {kc ks b L i : Nat} {xs : Nat → Int32} {M : gb_M} (O : gC G X A code 4 RL d) (hd : 11 ≤ d) (g : gL G X A b L xs kc ks) (hi : i + 4 < L) (hI : iL G M) (hk : ∀ M', iL G M' → Wl G X A 4 Q 1135 (lvL G b i) [] (gb_pl (gb_ad G) (gb_N G) M') kc ks) : Wl G X A 4 Q 596 (lvL G b i) [] (gb_pl (gb_ad G) (gb_N G) M) kc ks := by
  obtain ⟨T, im, kp, bs, ln, fa, st, sf, sn, sh, sc, tn, hC, hM⟩ := hI
  refine l_aload_n (n := 597) O dL_law_596 rfl rfl rfl ?_
  refine l_arg (j := 1) (n := 602) O g dL_law_597 dL_law_598 dL_law_599 (by decide) dL_law_600 dL_law_601 (by omega) rfl ?_
  refine l_callF (c := 0) (ci := 6) (As := [.int (xs (i + 1))]) (n := 605) O g dL_law_602 ul_L_81 um_X6_spare (fun _ hQ => f_X6_spare g.1 hC hQ) rfl (by decide) hC.obj rfl rfl rfl (Nat.le_trans (by decide) hd) (Nat.le_of_ble_eq_true rfl) rfl (fun M1 hC1 s1 => ?_)
  have hM1 := hM.kp (kp_sm s1 (by omega))
  refine l_aload_n (n := 606) O dL_law_605 rfl rfl rfl ?_
  refine l_arg (j := 1) (n := 611) O g dL_law_606 dL_law_607 dL_law_608 (by decide) dL_law_609 dL_law_610 (by omega) rfl ?_
  refine l_callF (c := 49) (ci := 7) (As := [.int (xs (i + 1))]) (n := 614) O g dL_law_611 ul_L_84 um_X7_spare (fun _ hQ => f_X7_spare g.1 hC.2.2.1 hM1 hQ) rfl (by decide) hM1.obj rfl rfl rfl (Nat.le_trans (by decide) hd) (Nat.le_of_ble_eq_true rfl) rfl (fun M2 hM2 s2 => ?_)
  have hk := hk M2 ⟨_, _, _, _, _, _, _, _, _, _, _, _, hC1.kp s2, hM2⟩
  exact l_icmp_eq (tgt := 1135) (n := 617) O dL_law_614 (by decide) rfl (fun _ => hk) (fun q => absurd rfl q)
set_option maxRecDepth 20000 in
theorem law_without {G : gb_G} {X : gb_X} {A : Nat → Prop} {d : Nat} {Q : State → Prop} {kc ks b L i : Nat} {xs : Nat → Int32} {M : gb_M} (O : gC G X A code 4 RL d) (hd : 11 ≤ d) (g : gL G X A b L xs kc ks) (hi : i + 4 < L) (hI : iL G M) (hk : ∀ M', iL G M' → Wl G X A 4 Q 1135 (lvL G b i) [] (gb_pl (gb_ad G) (gb_N G) M') kc ks) : Wl G X A 4 Q 619 (lvL G b i) [] (gb_pl (gb_ad G) (gb_N G) M) kc ks := by
  obtain ⟨T, im, kp, bs, ln, fa, st, sf, sn, sh, sc, tn, hC, hM⟩ := hI
  refine l_aload_n (n := 620) O dL_law_619 rfl rfl rfl ?_
  refine l_arg (j := 1) (n := 625) O g dL_law_620 dL_law_621 dL_law_622 (by decide) dL_law_623 dL_law_624 (by omega) rfl ?_
  refine l_callF (c := 0) (ci := 6) (As := [.int (xs (i + 1))]) (n := 628) O g dL_law_625 ul_L_85 um_X6_without (fun _ hQ => f_X6_without g.1 hC hQ) rfl (by decide) hC.obj rfl rfl rfl (Nat.le_trans (by decide) hd) (Nat.le_of_ble_eq_true rfl) rfl (fun M1 hC1 s1 => ?_)
  have hM1 := hM.kp (kp_sm s1 (by omega))
  refine l_aload_n (n := 629) O dL_law_628 rfl rfl rfl ?_
  refine l_arg (j := 1) (n := 634) O g dL_law_629 dL_law_630 dL_law_631 (by decide) dL_law_632 dL_law_633 (by omega) rfl ?_
  refine l_callF (c := 49) (ci := 7) (As := [.int (xs (i + 1))]) (n := 637) O g dL_law_634 ul_L_88 um_X7_without (fun _ hQ => f_X7_without g.1 hC.2.2.1 hM1 hQ) rfl (by decide) hM1.obj rfl rfl rfl (Nat.le_trans (by decide) hd) (Nat.le_of_ble_eq_true rfl) rfl (fun M2 hM2 s2 => ?_)
  have hk := hk M2 ⟨_, _, _, _, _, _, _, _, _, _, _, _, hC1.kp s2, hM2⟩
  exact l_icmp_eq (tgt := 1135) (n := 640) O dL_law_637 (by decide) rfl (fun _ => hk) (fun q => absurd rfl q)
set_option maxRecDepth 20000 in
theorem law_lasts {G : gb_G} {X : gb_X} {A : Nat → Prop} {d : Nat} {Q : State → Prop} {kc ks b L i : Nat} {xs : Nat → Int32} {M : gb_M} (O : gC G X A code 4 RL d) (hd : 11 ≤ d) (g : gL G X A b L xs kc ks) (hi : i + 4 < L) (hI : iL G M) (hk : ∀ M', iL G M' → Wl G X A 4 Q 1135 (lvL G b i) [] (gb_pl (gb_ad G) (gb_N G) M') kc ks) : Wl G X A 4 Q 642 (lvL G b i) [] (gb_pl (gb_ad G) (gb_N G) M) kc ks := by
  obtain ⟨T, im, kp, bs, ln, fa, st, sf, sn, sh, sc, tn, hC, hM⟩ := hI
  refine l_aload_n (n := 643) O dL_law_642 rfl rfl rfl ?_
  refine l_callF (c := 0) (ci := 6) (As := []) (n := 646) O g dL_law_643 ul_L_89 um_X6_lasts (fun _ hQ => f_X6_lasts g.1 hC hQ) rfl (by decide) hC.obj rfl rfl rfl (Nat.le_trans (by decide) hd) (Nat.le_of_ble_eq_true rfl) rfl (fun M1 hC1 s1 => ?_)
  have hM1 := hM.kp (kp_sm s1 (by omega))
  refine l_aload_n (n := 647) O dL_law_646 rfl rfl rfl ?_
  refine l_callF (c := 49) (ci := 7) (As := []) (n := 650) O g dL_law_647 ul_L_92 um_X7_lasts (fun _ hQ => f_X7_lasts g.1 hC.2.2.1 hM1 hQ) rfl (by decide) hM1.obj rfl rfl rfl (Nat.le_trans (by decide) hd) (Nat.le_of_ble_eq_true rfl) rfl (fun M2 hM2 s2 => ?_)
  have hk := hk M2 ⟨_, _, _, _, _, _, _, _, _, _, _, _, hC1.kp s2, hM2⟩
  exact l_icmp_eq (tgt := 1135) (n := 653) O dL_law_650 (by decide) rfl (fun _ => hk) (fun q => absurd rfl q)
set_option maxRecDepth 20000 in
theorem law_swap {G : gb_G} {X : gb_X} {A : Nat → Prop} {d : Nat} {Q : State → Prop} {kc ks b L i : Nat} {xs : Nat → Int32} {M : gb_M} (O : gC G X A code 4 RL d) (hd : 11 ≤ d) (g : gL G X A b L xs kc ks) (hi : i + 4 < L) (hI : iL G M) (hk : ∀ M', iL G M' → Wl G X A 4 Q 1135 (lvL G b i) [] (gb_pl (gb_ad G) (gb_N G) M') kc ks) : Wl G X A 4 Q 655 (lvL G b i) [] (gb_pl (gb_ad G) (gb_N G) M) kc ks := by
  obtain ⟨T, im, kp, bs, ln, fa, st, sf, sn, sh, sc, tn, hC, hM⟩ := hI
  refine l_aload_n (n := 656) O dL_law_655 rfl rfl rfl ?_
  refine l_callF (c := 0) (ci := 6) (As := []) (n := 659) O g dL_law_656 ul_L_93 um_X6_swap (fun _ hQ => f_X6_swap g.1 hC hQ) rfl (by decide) hC.obj rfl rfl rfl (Nat.le_trans (by decide) hd) (Nat.le_of_ble_eq_true rfl) rfl (fun M1 hC1 s1 => ?_)
  have hM1 := hM.kp (kp_sm s1 (by omega))
  refine l_aload_n (n := 660) O dL_law_659 rfl rfl rfl ?_
  refine l_callF (c := 49) (ci := 7) (As := []) (n := 663) O g dL_law_660 ul_L_96 um_X7_swap (fun _ hQ => f_X7_swap g.1 hC.2.2.1 hM1 hQ) rfl (by decide) hM1.obj rfl rfl rfl (Nat.le_trans (by decide) hd) (Nat.le_of_ble_eq_true rfl) rfl (fun M2 hM2 s2 => ?_)
  have hk := hk M2 ⟨_, _, _, _, _, _, _, _, _, _, _, _, hC1.kp s2, hM2⟩
  exact l_icmp_eq (tgt := 1135) (n := 666) O dL_law_663 (by decide) rfl (fun _ => hk) (fun q => absurd rfl q)
set_option maxRecDepth 20000 in
theorem law_mean {G : gb_G} {X : gb_X} {A : Nat → Prop} {d : Nat} {Q : State → Prop} {kc ks b L i : Nat} {xs : Nat → Int32} {M : gb_M} (O : gC G X A code 4 RL d) (hd : 11 ≤ d) (g : gL G X A b L xs kc ks) (hi : i + 4 < L) (hI : iL G M) (hk : ∀ M', iL G M' → Wl G X A 4 Q 1135 (lvL G b i) [] (gb_pl (gb_ad G) (gb_N G) M') kc ks) : Wl G X A 4 Q 668 (lvL G b i) [] (gb_pl (gb_ad G) (gb_N G) M) kc ks := by
  obtain ⟨T, im, kp, bs, ln, fa, st, sf, sn, sh, sc, tn, hC, hM⟩ := hI
  refine l_aload_n (n := 669) O dL_law_668 rfl rfl rfl ?_
  refine l_arg (j := 1) (n := 674) O g dL_law_669 dL_law_670 dL_law_671 (by decide) dL_law_672 dL_law_673 (by omega) rfl ?_
  refine l_arg (j := 2) (n := 679) O g dL_law_674 dL_law_675 dL_law_676 (by decide) dL_law_677 dL_law_678 (by omega) rfl ?_
  refine l_callF (c := 0) (ci := 6) (As := [.int (xs (i + 1)), .int (xs (i + 2))]) (n := 682) O g dL_law_679 ul_L_97 um_X6_mean (fun _ hQ => f_X6_mean g.1 hC hQ) rfl (by decide) hC.obj rfl rfl rfl (Nat.le_trans (by decide) hd) (Nat.le_of_ble_eq_true rfl) rfl (fun M1 hC1 s1 => ?_)
  have hM1 := hM.kp (kp_sm s1 (by omega))
  refine l_aload_n (n := 683) O dL_law_682 rfl rfl rfl ?_
  refine l_arg (j := 1) (n := 688) O g dL_law_683 dL_law_684 dL_law_685 (by decide) dL_law_686 dL_law_687 (by omega) rfl ?_
  refine l_arg (j := 2) (n := 693) O g dL_law_688 dL_law_689 dL_law_690 (by decide) dL_law_691 dL_law_692 (by omega) rfl ?_
  refine l_callF (c := 49) (ci := 7) (As := [.int (xs (i + 1)), .int (xs (i + 2))]) (n := 696) O g dL_law_693 ul_L_101 um_X7_mean (fun _ hQ => f_X7_mean g.1 hC.2.2.1 hM1 hQ) rfl (by decide) hM1.obj rfl rfl rfl (Nat.le_trans (by decide) hd) (Nat.le_of_ble_eq_true rfl) rfl (fun M2 hM2 s2 => ?_)
  have hk := hk M2 ⟨_, _, _, _, _, _, _, _, _, _, _, _, hC1.kp s2, hM2⟩
  refine l_lcmp (n := 697) O dL_law_696 rfl ?_
  exact l_if_eq (tgt := 1135) (n := 700) O dL_law_697 (by decide) rfl (fun _ => hk) (fun q => absurd (cmp_self _) q)
set_option maxRecDepth 20000 in
theorem law_luck {G : gb_G} {X : gb_X} {A : Nat → Prop} {d : Nat} {Q : State → Prop} {kc ks b L i : Nat} {xs : Nat → Int32} {M : gb_M} (O : gC G X A code 4 RL d) (hd : 11 ≤ d) (g : gL G X A b L xs kc ks) (hi : i + 4 < L) (hI : iL G M) (hk : ∀ M', iL G M' → Wl G X A 4 Q 1135 (lvL G b i) [] (gb_pl (gb_ad G) (gb_N G) M') kc ks) : Wl G X A 4 Q 702 (lvL G b i) [] (gb_pl (gb_ad G) (gb_N G) M) kc ks := by
  obtain ⟨T, im, kp, bs, ln, fa, st, sf, sn, sh, sc, tn, hC, hM⟩ := hI
  refine l_aload_n (n := 703) O dL_law_702 rfl rfl rfl ?_
  refine l_arg (j := 1) (n := 708) O g dL_law_703 dL_law_704 dL_law_705 (by decide) dL_law_706 dL_law_707 (by omega) rfl ?_
  refine l_arg (j := 2) (n := 713) O g dL_law_708 dL_law_709 dL_law_710 (by decide) dL_law_711 dL_law_712 (by omega) rfl ?_
  refine l_callF (c := 0) (ci := 6) (As := [.int (xs (i + 1)), .int (xs (i + 2))]) (n := 716) O g dL_law_713 ul_L_102 um_X6_luck (fun _ hQ => f_X6_luck g.1 hC hQ) rfl (by decide) hC.obj rfl rfl rfl (Nat.le_trans (by decide) hd) (Nat.le_of_ble_eq_true rfl) rfl (fun M1 hC1 s1 => ?_)
  have hM1 := hM.kp (kp_sm s1 (by omega))
  refine l_aload_n (n := 717) O dL_law_716 rfl rfl rfl ?_
  refine l_arg (j := 1) (n := 722) O g dL_law_717 dL_law_718 dL_law_719 (by decide) dL_law_720 dL_law_721 (by omega) rfl ?_
  refine l_arg (j := 2) (n := 727) O g dL_law_722 dL_law_723 dL_law_724 (by decide) dL_law_725 dL_law_726 (by omega) rfl ?_
  refine l_callF (c := 49) (ci := 7) (As := [.int (xs (i + 1)), .int (xs (i + 2))]) (n := 730) O g dL_law_727 ul_L_105 um_X7_luck (fun _ hQ => f_X7_luck g.1 hC.2.2.1 hM1 hQ) rfl (by decide) hM1.obj rfl rfl rfl (Nat.le_trans (by decide) hd) (Nat.le_of_ble_eq_true rfl) rfl (fun M2 hM2 s2 => ?_)
  have hk := hk M2 ⟨_, _, _, _, _, _, _, _, _, _, _, _, hC1.kp s2, hM2⟩
  refine l_lcmp (n := 731) O dL_law_730 rfl ?_
  exact l_if_eq (tgt := 1135) (n := 734) O dL_law_731 (by decide) rfl (fun _ => hk) (fun q => absurd (cmp_self _) q)
set_option maxRecDepth 20000 in
theorem law_see {G : gb_G} {X : gb_X} {A : Nat → Prop} {d : Nat} {Q : State → Prop} {kc ks b L i : Nat} {xs : Nat → Int32} {M : gb_M} (O : gC G X A code 4 RL d) (hd : 11 ≤ d) (g : gL G X A b L xs kc ks) (hi : i + 4 < L) (hI : iL G M) (hk : ∀ M', iL G M' → Wl G X A 4 Q 1135 (lvL G b i) [] (gb_pl (gb_ad G) (gb_N G) M') kc ks) : Wl G X A 4 Q 736 (lvL G b i) [] (gb_pl (gb_ad G) (gb_N G) M) kc ks := by
  obtain ⟨T, im, kp, bs, ln, fa, st, sf, sn, sh, sc, tn, hC, hM⟩ := hI
  refine l_aload_n (n := 737) O dL_law_736 rfl rfl rfl ?_
  refine l_arg (j := 1) (n := 742) O g dL_law_737 dL_law_738 dL_law_739 (by decide) dL_law_740 dL_law_741 (by omega) rfl ?_
  refine l_arg (j := 2) (n := 747) O g dL_law_742 dL_law_743 dL_law_744 (by decide) dL_law_745 dL_law_746 (by omega) rfl ?_
  refine l_callF (c := 0) (ci := 6) (As := [.int (xs (i + 1)), .int (xs (i + 2))]) (n := 750) O g dL_law_747 ul_L_106 um_X6_see (fun _ hQ => f_X6_see g.1 hC hQ) rfl (by decide) hC.obj rfl rfl rfl (Nat.le_trans (by decide) hd) (Nat.le_of_ble_eq_true rfl) rfl (fun M1 hC1 s1 => ?_)
  have hM1 := hM.kp (kp_sm s1 (by omega))
  refine l_aload_n (n := 751) O dL_law_750 rfl rfl rfl ?_
  refine l_arg (j := 1) (n := 756) O g dL_law_751 dL_law_752 dL_law_753 (by decide) dL_law_754 dL_law_755 (by omega) rfl ?_
  refine l_arg (j := 2) (n := 761) O g dL_law_756 dL_law_757 dL_law_758 (by decide) dL_law_759 dL_law_760 (by omega) rfl ?_
  refine l_callF (c := 49) (ci := 7) (As := [.int (xs (i + 1)), .int (xs (i + 2))]) (n := 764) O g dL_law_761 ul_L_109 um_X7_see (fun _ hQ => f_X7_see g.1 hC.2.2.1 hM1 hQ) rfl (by decide) hM1.obj rfl rfl rfl (Nat.le_trans (by decide) hd) (Nat.le_of_ble_eq_true rfl) rfl (fun M2 hM2 s2 => ?_)
  have hk := hk M2 ⟨_, _, _, _, _, _, _, _, _, _, _, _, hC1.kp s2, hM2⟩
  exact l_icmp_eq (tgt := 1135) (n := 767) O dL_law_764 (by decide) rfl (fun _ => hk) (fun q => absurd rfl q)
set_option maxRecDepth 20000 in
theorem law_forget {G : gb_G} {X : gb_X} {A : Nat → Prop} {d : Nat} {Q : State → Prop} {kc ks b L i : Nat} {xs : Nat → Int32} {M : gb_M} (O : gC G X A code 4 RL d) (hd : 11 ≤ d) (g : gL G X A b L xs kc ks) (hi : i + 4 < L) (hI : iL G M) (hk : ∀ M', iL G M' → Wl G X A 4 Q 1135 (lvL G b i) [] (gb_pl (gb_ad G) (gb_N G) M') kc ks) : Wl G X A 4 Q 769 (lvL G b i) [] (gb_pl (gb_ad G) (gb_N G) M) kc ks := by
  obtain ⟨T, im, kp, bs, ln, fa, st, sf, sn, sh, sc, tn, hC, hM⟩ := hI
  refine l_aload_n (n := 770) O dL_law_769 rfl rfl rfl ?_
  refine l_arg (j := 1) (n := 775) O g dL_law_770 dL_law_771 dL_law_772 (by decide) dL_law_773 dL_law_774 (by omega) rfl ?_
  refine l_callF (c := 0) (ci := 6) (As := [.int (xs (i + 1))]) (n := 778) O g dL_law_775 ul_L_110 um_X6_forget (fun _ hQ => f_X6_forget g.1 hC hQ) rfl (by decide) hC.obj rfl rfl rfl (Nat.le_trans (by decide) hd) (Nat.le_of_ble_eq_true rfl) rfl (fun M1 hC1 s1 => ?_)
  have hM1 := hM.kp (kp_sm s1 (by omega))
  refine l_aload_n (n := 779) O dL_law_778 rfl rfl rfl ?_
  refine l_arg (j := 1) (n := 784) O g dL_law_779 dL_law_780 dL_law_781 (by decide) dL_law_782 dL_law_783 (by omega) rfl ?_
  refine l_callF (c := 49) (ci := 7) (As := [.int (xs (i + 1))]) (n := 787) O g dL_law_784 ul_L_113 um_X7_forget (fun _ hQ => f_X7_forget g.1 hC.2.2.1 hM1 hQ) rfl (by decide) hM1.obj rfl rfl rfl (Nat.le_trans (by decide) hd) (Nat.le_of_ble_eq_true rfl) rfl (fun M2 hM2 s2 => ?_)
  have hk := hk M2 ⟨_, _, _, _, _, _, _, _, _, _, _, _, hC1.kp s2, hM2⟩
  exact l_icmp_eq (tgt := 1135) (n := 790) O dL_law_787 (by decide) rfl (fun _ => hk) (fun q => absurd rfl q)
set_option maxRecDepth 20000 in
theorem law_fits {G : gb_G} {X : gb_X} {A : Nat → Prop} {d : Nat} {Q : State → Prop} {kc ks b L i : Nat} {xs : Nat → Int32} {M : gb_M} (O : gC G X A code 4 RL d) (hd : 11 ≤ d) (g : gL G X A b L xs kc ks) (hi : i + 4 < L) (hI : iL G M) (hk : ∀ M', iL G M' → Wl G X A 4 Q 1135 (lvL G b i) [] (gb_pl (gb_ad G) (gb_N G) M') kc ks) : Wl G X A 4 Q 792 (lvL G b i) [] (gb_pl (gb_ad G) (gb_N G) M) kc ks := by
  obtain ⟨T, im, kp, bs, ln, fa, st, sf, sn, sh, sc, tn, hC, hM⟩ := hI
  refine l_aload_n (n := 793) O dL_law_792 rfl rfl rfl ?_
  refine l_arg (j := 1) (n := 798) O g dL_law_793 dL_law_794 dL_law_795 (by decide) dL_law_796 dL_law_797 (by omega) rfl ?_
  refine l_callF (c := 0) (ci := 6) (As := [.int (xs (i + 1))]) (n := 801) O g dL_law_798 ul_L_114 um_X6_fits (fun _ hQ => f_X6_fits g.1 hC hQ) rfl (by decide) hC.obj rfl rfl rfl (Nat.le_trans (by decide) hd) (Nat.le_of_ble_eq_true rfl) rfl (fun M1 hC1 s1 => ?_)
  have hM1 := hM.kp (kp_sm s1 (by omega))
  refine l_aload_n (n := 802) O dL_law_801 rfl rfl rfl ?_
  refine l_arg (j := 1) (n := 807) O g dL_law_802 dL_law_803 dL_law_804 (by decide) dL_law_805 dL_law_806 (by omega) rfl ?_
  refine l_callF (c := 49) (ci := 7) (As := [.int (xs (i + 1))]) (n := 810) O g dL_law_807 ul_L_117 um_X7_fits (fun _ hQ => f_X7_fits g.1 hC.2.2.1 hM1 hQ) rfl (by decide) hM1.obj rfl rfl rfl (Nat.le_trans (by decide) hd) (Nat.le_of_ble_eq_true rfl) rfl (fun M2 hM2 s2 => ?_)
  have hk := hk M2 ⟨_, _, _, _, _, _, _, _, _, _, _, _, hC1.kp s2, hM2⟩
  exact l_icmp_eq (tgt := 1135) (n := 813) O dL_law_810 (by decide) rfl (fun _ => hk) (fun q => absurd rfl q)
set_option maxRecDepth 20000 in
theorem law_range {G : gb_G} {X : gb_X} {A : Nat → Prop} {d : Nat} {Q : State → Prop} {kc ks b L i : Nat} {xs : Nat → Int32} {M : gb_M} (O : gC G X A code 4 RL d) (hd : 11 ≤ d) (g : gL G X A b L xs kc ks) (hi : i + 4 < L) (hI : iL G M) (hk : ∀ M', iL G M' → Wl G X A 4 Q 1135 (lvL G b i) [] (gb_pl (gb_ad G) (gb_N G) M') kc ks) : Wl G X A 4 Q 815 (lvL G b i) [] (gb_pl (gb_ad G) (gb_N G) M) kc ks := by
  obtain ⟨T, im, kp, bs, ln, fa, st, sf, sn, sh, sc, tn, hC, hM⟩ := hI
  refine l_aload_n (n := 816) O dL_law_815 rfl rfl rfl ?_
  refine l_arg (j := 1) (n := 821) O g dL_law_816 dL_law_817 dL_law_818 (by decide) dL_law_819 dL_law_820 (by omega) rfl ?_
  refine l_arg (j := 2) (n := 826) O g dL_law_821 dL_law_822 dL_law_823 (by decide) dL_law_824 dL_law_825 (by omega) rfl ?_
  refine l_callF (c := 0) (ci := 6) (As := [.int (xs (i + 1)), .int (xs (i + 2))]) (n := 829) O g dL_law_826 ul_L_118 um_X6_range (fun _ hQ => f_X6_range g.1 hC hQ) rfl (by decide) hC.obj rfl rfl rfl (Nat.le_trans (by decide) hd) (Nat.le_of_ble_eq_true rfl) rfl (fun M1 hC1 s1 => ?_)
  have hM1 := hM.kp (kp_sm s1 (by omega))
  refine l_aload_n (n := 830) O dL_law_829 rfl rfl rfl ?_
  refine l_arg (j := 1) (n := 835) O g dL_law_830 dL_law_831 dL_law_832 (by decide) dL_law_833 dL_law_834 (by omega) rfl ?_
  refine l_arg (j := 2) (n := 840) O g dL_law_835 dL_law_836 dL_law_837 (by decide) dL_law_838 dL_law_839 (by omega) rfl ?_
  refine l_callF (c := 49) (ci := 7) (As := [.int (xs (i + 1)), .int (xs (i + 2))]) (n := 843) O g dL_law_840 ul_L_121 um_X7_range (fun _ hQ => f_X7_range g.1 hC.2.2.1 hM1 hQ) rfl (by decide) hM1.obj rfl rfl rfl (Nat.le_trans (by decide) hd) (Nat.le_of_ble_eq_true rfl) rfl (fun M2 hM2 s2 => ?_)
  have hk := hk M2 ⟨_, _, _, _, _, _, _, _, _, _, _, _, hC1.kp s2, hM2⟩
  exact l_icmp_eq (tgt := 1135) (n := 846) O dL_law_843 (by decide) rfl (fun _ => hk) (fun q => absurd rfl q)
set_option maxRecDepth 20000 in
theorem law_next {G : gb_G} {X : gb_X} {A : Nat → Prop} {d : Nat} {Q : State → Prop} {kc ks b L i : Nat} {xs : Nat → Int32} {M : gb_M} (O : gC G X A code 4 RL d) (hd : 11 ≤ d) (g : gL G X A b L xs kc ks) (hi : i + 4 < L) (hI : iL G M) (hk : ∀ M', iL G M' → Wl G X A 4 Q 1135 (lvL G b i) [] (gb_pl (gb_ad G) (gb_N G) M') kc ks) : Wl G X A 4 Q 848 (lvL G b i) [] (gb_pl (gb_ad G) (gb_N G) M) kc ks := by
  obtain ⟨T, im, kp, bs, ln, fa, st, sf, sn, sh, sc, tn, hC, hM⟩ := hI
  refine l_aload_n (n := 849) O dL_law_848 rfl rfl rfl ?_
  refine l_arg (j := 1) (n := 854) O g dL_law_849 dL_law_850 dL_law_851 (by decide) dL_law_852 dL_law_853 (by omega) rfl ?_
  refine l_callF (c := 0) (ci := 6) (As := [.int (xs (i + 1))]) (n := 857) O g dL_law_854 ul_L_122 um_X6_next (fun _ hQ => f_X6_next g.1 hC hQ) rfl (by decide) hC.obj rfl rfl rfl (Nat.le_trans (by decide) hd) (Nat.le_of_ble_eq_true rfl) rfl (fun M1 hC1 s1 => ?_)
  have hM1 := hM.kp (kp_sm s1 (by omega))
  refine l_aload_n (n := 858) O dL_law_857 rfl rfl rfl ?_
  refine l_arg (j := 1) (n := 863) O g dL_law_858 dL_law_859 dL_law_860 (by decide) dL_law_861 dL_law_862 (by omega) rfl ?_
  refine l_callF (c := 49) (ci := 7) (As := [.int (xs (i + 1))]) (n := 866) O g dL_law_863 ul_L_125 um_X7_next (fun _ hQ => f_X7_next g.1 hC.2.2.1 hM1 hQ) rfl (by decide) hM1.obj rfl rfl rfl (Nat.le_trans (by decide) hd) (Nat.le_of_ble_eq_true rfl) rfl (fun M2 hM2 s2 => ?_)
  have hk := hk M2 ⟨_, _, _, _, _, _, _, _, _, _, _, _, hC1.kp s2, hM2⟩
  exact l_icmp_eq (tgt := 1135) (n := 869) O dL_law_866 (by decide) rfl (fun _ => hk) (fun q => absurd rfl q)
set_option maxRecDepth 20000 in
theorem law_drift {G : gb_G} {X : gb_X} {A : Nat → Prop} {d : Nat} {Q : State → Prop} {kc ks b L i : Nat} {xs : Nat → Int32} {M : gb_M} (O : gC G X A code 4 RL d) (hd : 11 ≤ d) (g : gL G X A b L xs kc ks) (hi : i + 4 < L) (hI : iL G M) (hk : ∀ M', iL G M' → Wl G X A 4 Q 1135 (lvL G b i) [] (gb_pl (gb_ad G) (gb_N G) M') kc ks) : Wl G X A 4 Q 871 (lvL G b i) [] (gb_pl (gb_ad G) (gb_N G) M) kc ks := by
  obtain ⟨T, im, kp, bs, ln, fa, st, sf, sn, sh, sc, tn, hC, hM⟩ := hI
  refine l_aload_n (n := 872) O dL_law_871 rfl rfl rfl ?_
  refine l_arg (j := 1) (n := 877) O g dL_law_872 dL_law_873 dL_law_874 (by decide) dL_law_875 dL_law_876 (by omega) rfl ?_
  refine l_arg (j := 2) (n := 882) O g dL_law_877 dL_law_878 dL_law_879 (by decide) dL_law_880 dL_law_881 (by omega) rfl ?_
  refine l_arg (j := 3) (n := 887) O g dL_law_882 dL_law_883 dL_law_884 (by decide) dL_law_885 dL_law_886 (by omega) rfl ?_
  refine l_callF (c := 0) (ci := 6) (As := [.int (xs (i + 1)), .int (xs (i + 2)), .int (xs (i + 3))]) (n := 890) O g dL_law_887 ul_L_126 um_X6_drift (fun _ hQ => f_X6_drift g.1 hC hQ) rfl (by decide) hC.obj rfl rfl rfl (Nat.le_trans (by decide) hd) (Nat.le_of_ble_eq_true rfl) rfl (fun M1 hC1 s1 => ?_)
  have hM1 := hM.kp (kp_sm s1 (by omega))
  refine l_aload_n (n := 891) O dL_law_890 rfl rfl rfl ?_
  refine l_arg (j := 1) (n := 896) O g dL_law_891 dL_law_892 dL_law_893 (by decide) dL_law_894 dL_law_895 (by omega) rfl ?_
  refine l_arg (j := 2) (n := 901) O g dL_law_896 dL_law_897 dL_law_898 (by decide) dL_law_899 dL_law_900 (by omega) rfl ?_
  refine l_arg (j := 3) (n := 906) O g dL_law_901 dL_law_902 dL_law_903 (by decide) dL_law_904 dL_law_905 (by omega) rfl ?_
  refine l_callF (c := 49) (ci := 7) (As := [.int (xs (i + 1)), .int (xs (i + 2)), .int (xs (i + 3))]) (n := 909) O g dL_law_906 ul_L_129 um_X7_drift (fun _ hQ => f_X7_drift g.1 hC.2.2.1 hM1 hQ) rfl (by decide) hM1.obj rfl rfl rfl (Nat.le_trans (by decide) hd) (Nat.le_of_ble_eq_true rfl) rfl (fun M2 hM2 s2 => ?_)
  have hk := hk M2 ⟨_, _, _, _, _, _, _, _, _, _, _, _, hC1.kp s2, hM2⟩
  exact l_icmp_eq (tgt := 1135) (n := 912) O dL_law_909 (by decide) rfl (fun _ => hk) (fun q => absurd rfl q)
set_option maxRecDepth 20000 in
theorem law_keep {G : gb_G} {X : gb_X} {A : Nat → Prop} {d : Nat} {Q : State → Prop} {kc ks b L i : Nat} {xs : Nat → Int32} {M : gb_M} (O : gC G X A code 4 RL d) (hd : 11 ≤ d) (g : gL G X A b L xs kc ks) (hi : i + 4 < L) (hI : iL G M) (hk : ∀ M', iL G M' → Wl G X A 4 Q 1135 (lvL G b i) [] (gb_pl (gb_ad G) (gb_N G) M') kc ks) : Wl G X A 4 Q 914 (lvL G b i) [] (gb_pl (gb_ad G) (gb_N G) M) kc ks := by
  obtain ⟨T, im, kp, bs, ln, fa, st, sf, sn, sh, sc, tn, hC, hM⟩ := hI
  refine l_aload_n (n := 915) O dL_law_914 rfl rfl rfl ?_
  refine l_arg (j := 1) (n := 920) O g dL_law_915 dL_law_916 dL_law_917 (by decide) dL_law_918 dL_law_919 (by omega) rfl ?_
  refine l_callF (c := 0) (ci := 6) (As := [.int (xs (i + 1))]) (n := 923) O g dL_law_920 ul_L_130 um_X6_keep (fun _ hQ => f_X6_keep g.1 hC hQ) rfl (by decide) hC.obj rfl rfl rfl (Nat.le_trans (by decide) hd) (Nat.le_of_ble_eq_true rfl) rfl (fun M1 hC1 s1 => ?_)
  have hM1 := hM.kp (kp_sm s1 (by omega))
  refine l_aload_n (n := 924) O dL_law_923 rfl rfl rfl ?_
  refine l_arg (j := 1) (n := 929) O g dL_law_924 dL_law_925 dL_law_926 (by decide) dL_law_927 dL_law_928 (by omega) rfl ?_
  refine l_callF (c := 49) (ci := 7) (As := [.int (xs (i + 1))]) (n := 932) O g dL_law_929 ul_L_133 um_X7_keep (fun _ hQ => f_X7_keep g.1 hC.2.2.1 hM1 hQ) rfl (by decide) hM1.obj rfl rfl rfl (Nat.le_trans (by decide) hd) (Nat.le_of_ble_eq_true rfl) rfl (fun M2 hM2 s2 => ?_)
  have hk := hk M2 ⟨_, _, _, _, _, _, _, _, _, _, _, _, hC1.kp s2, hM2⟩
  exact l_icmp_eq (tgt := 1135) (n := 935) O dL_law_932 (by decide) rfl (fun _ => hk) (fun q => absurd rfl q)
set_option maxRecDepth 20000 in
theorem law_back {G : gb_G} {X : gb_X} {A : Nat → Prop} {d : Nat} {Q : State → Prop} {kc ks b L i : Nat} {xs : Nat → Int32} {M : gb_M} (O : gC G X A code 4 RL d) (hd : 11 ≤ d) (g : gL G X A b L xs kc ks) (hi : i + 4 < L) (hI : iL G M) (hk : ∀ M', iL G M' → Wl G X A 4 Q 1135 (lvL G b i) [] (gb_pl (gb_ad G) (gb_N G) M') kc ks) : Wl G X A 4 Q 937 (lvL G b i) [] (gb_pl (gb_ad G) (gb_N G) M) kc ks := by
  obtain ⟨T, im, kp, bs, ln, fa, st, sf, sn, sh, sc, tn, hC, hM⟩ := hI
  refine l_aload_n (n := 938) O dL_law_937 rfl rfl rfl ?_
  refine l_arg (j := 1) (n := 943) O g dL_law_938 dL_law_939 dL_law_940 (by decide) dL_law_941 dL_law_942 (by omega) rfl ?_
  refine l_callF (c := 0) (ci := 6) (As := [.int (xs (i + 1))]) (n := 946) O g dL_law_943 ul_L_134 um_X6_back (fun _ hQ => f_X6_back g.1 hC hQ) rfl (by decide) hC.obj rfl rfl rfl (Nat.le_trans (by decide) hd) (Nat.le_of_ble_eq_true rfl) rfl (fun M1 hC1 s1 => ?_)
  have hM1 := hM.kp (kp_sm s1 (by omega))
  refine l_aload_n (n := 947) O dL_law_946 rfl rfl rfl ?_
  refine l_arg (j := 1) (n := 952) O g dL_law_947 dL_law_948 dL_law_949 (by decide) dL_law_950 dL_law_951 (by omega) rfl ?_
  refine l_callF (c := 49) (ci := 7) (As := [.int (xs (i + 1))]) (n := 955) O g dL_law_952 ul_L_137 um_X7_back (fun _ hQ => f_X7_back g.1 hC.2.2.1 hM1 hQ) rfl (by decide) hM1.obj rfl rfl rfl (Nat.le_trans (by decide) hd) (Nat.le_of_ble_eq_true rfl) rfl (fun M2 hM2 s2 => ?_)
  have hk := hk M2 ⟨_, _, _, _, _, _, _, _, _, _, _, _, hC1.kp s2, hM2⟩
  exact l_icmp_eq (tgt := 1135) (n := 958) O dL_law_955 (by decide) rfl (fun _ => hk) (fun q => absurd rfl q)
set_option maxRecDepth 20000 in
theorem law_sheet {G : gb_G} {X : gb_X} {A : Nat → Prop} {d : Nat} {Q : State → Prop} {kc ks b L i : Nat} {xs : Nat → Int32} {M : gb_M} (O : gC G X A code 4 RL d) (hd : 11 ≤ d) (g : gL G X A b L xs kc ks) (hi : i + 4 < L) (hI : iL G M) (hk : ∀ M', iL G M' → Wl G X A 4 Q 1135 (lvL G b i) [] (gb_pl (gb_ad G) (gb_N G) M') kc ks) : Wl G X A 4 Q 960 (lvL G b i) [] (gb_pl (gb_ad G) (gb_N G) M) kc ks := by
  obtain ⟨T, im, kp, bs, ln, fa, st, sf, sn, sh, sc, tn, hC, hM⟩ := hI
  refine l_aload_n (n := 961) O dL_law_960 rfl rfl rfl ?_
  refine l_arg (j := 1) (n := 966) O g dL_law_961 dL_law_962 dL_law_963 (by decide) dL_law_964 dL_law_965 (by omega) rfl ?_
  refine l_arg (j := 2) (n := 971) O g dL_law_966 dL_law_967 dL_law_968 (by decide) dL_law_969 dL_law_970 (by omega) rfl ?_
  refine l_arg (j := 3) (n := 976) O g dL_law_971 dL_law_972 dL_law_973 (by decide) dL_law_974 dL_law_975 (by omega) rfl ?_
  refine l_callF (c := 0) (ci := 6) (As := [.int (xs (i + 1)), .int (xs (i + 2)), .int (xs (i + 3))]) (n := 979) O g dL_law_976 ul_L_138 um_X6_sheet (fun _ hQ => f_X6_sheet g.1 hC hQ) rfl (by decide) hC.obj rfl rfl rfl (Nat.le_trans (by decide) hd) (Nat.le_of_ble_eq_true rfl) rfl (fun M1 hC1 s1 => ?_)
  have hM1 := hM.kp (kp_sm s1 (by omega))
  refine l_aload_n (n := 980) O dL_law_979 rfl rfl rfl ?_
  refine l_arg (j := 1) (n := 985) O g dL_law_980 dL_law_981 dL_law_982 (by decide) dL_law_983 dL_law_984 (by omega) rfl ?_
  refine l_arg (j := 2) (n := 990) O g dL_law_985 dL_law_986 dL_law_987 (by decide) dL_law_988 dL_law_989 (by omega) rfl ?_
  refine l_arg (j := 3) (n := 995) O g dL_law_990 dL_law_991 dL_law_992 (by decide) dL_law_993 dL_law_994 (by omega) rfl ?_
  refine l_callF (c := 49) (ci := 7) (As := [.int (xs (i + 1)), .int (xs (i + 2)), .int (xs (i + 3))]) (n := 998) O g dL_law_995 ul_L_141 um_X7_sheet (fun _ hQ => f_X7_sheet g.1 hC.2.2.1 hM1 hQ) rfl (by decide) hM1.obj rfl rfl rfl (Nat.le_trans (by decide) hd) (Nat.le_of_ble_eq_true rfl) rfl (fun M2 hM2 s2 => ?_)
  have hk := hk M2 ⟨_, _, _, _, _, _, _, _, _, _, _, _, hC1.kp s2, hM2⟩
  exact l_icmp_eq (tgt := 1135) (n := 1001) O dL_law_998 (by decide) rfl (fun _ => hk) (fun q => absurd rfl q)
set_option maxRecDepth 20000 in
theorem law_lay {G : gb_G} {X : gb_X} {A : Nat → Prop} {d : Nat} {Q : State → Prop} {kc ks b L i : Nat} {xs : Nat → Int32} {M : gb_M} (O : gC G X A code 4 RL d) (hd : 11 ≤ d) (g : gL G X A b L xs kc ks) (hi : i + 4 < L) (hI : iL G M) (hk : ∀ M', iL G M' → Wl G X A 4 Q 1135 (lvL G b i) [] (gb_pl (gb_ad G) (gb_N G) M') kc ks) : Wl G X A 4 Q 1003 (lvL G b i) [] (gb_pl (gb_ad G) (gb_N G) M) kc ks := by
  obtain ⟨T, im, kp, bs, ln, fa, st, sf, sn, sh, sc, tn, hC, hM⟩ := hI
  refine l_aload_n (n := 1004) O dL_law_1003 rfl rfl rfl ?_
  refine l_arg (j := 1) (n := 1009) O g dL_law_1004 dL_law_1005 dL_law_1006 (by decide) dL_law_1007 dL_law_1008 (by omega) rfl ?_
  refine l_arg (j := 2) (n := 1014) O g dL_law_1009 dL_law_1010 dL_law_1011 (by decide) dL_law_1012 dL_law_1013 (by omega) rfl ?_
  refine l_arg (j := 3) (n := 1019) O g dL_law_1014 dL_law_1015 dL_law_1016 (by decide) dL_law_1017 dL_law_1018 (by omega) rfl ?_
  refine l_callF (c := 0) (ci := 6) (As := [.int (xs (i + 1)), .int (xs (i + 2)), .int (xs (i + 3))]) (n := 1022) O g dL_law_1019 ul_L_142 um_X6_lay (fun _ hQ => f_X6_lay g.1 hC hQ) rfl (by decide) hC.obj rfl rfl rfl (Nat.le_trans (by decide) hd) (Nat.le_of_ble_eq_true rfl) rfl (fun M1 hC1 s1 => ?_)
  have hM1 := hM.kp (kp_sm s1 (by omega))
  refine l_aload_n (n := 1023) O dL_law_1022 rfl rfl rfl ?_
  refine l_arg (j := 1) (n := 1028) O g dL_law_1023 dL_law_1024 dL_law_1025 (by decide) dL_law_1026 dL_law_1027 (by omega) rfl ?_
  refine l_arg (j := 2) (n := 1033) O g dL_law_1028 dL_law_1029 dL_law_1030 (by decide) dL_law_1031 dL_law_1032 (by omega) rfl ?_
  refine l_arg (j := 3) (n := 1038) O g dL_law_1033 dL_law_1034 dL_law_1035 (by decide) dL_law_1036 dL_law_1037 (by omega) rfl ?_
  refine l_callF (c := 49) (ci := 7) (As := [.int (xs (i + 1)), .int (xs (i + 2)), .int (xs (i + 3))]) (n := 1041) O g dL_law_1038 ul_L_145 um_X7_lay (fun _ hQ => f_X7_lay g.1 hC.2.2.1 hM1 hQ) rfl (by decide) hM1.obj rfl rfl rfl (Nat.le_trans (by decide) hd) (Nat.le_of_ble_eq_true rfl) rfl (fun M2 hM2 s2 => ?_)
  have hk := hk M2 ⟨_, _, _, _, _, _, _, _, _, _, _, _, hC1.kp s2, hM2⟩
  exact l_icmp_eq (tgt := 1135) (n := 1044) O dL_law_1041 (by decide) rfl (fun _ => hk) (fun q => absurd rfl q)
set_option maxRecDepth 20000 in
theorem law_read {G : gb_G} {X : gb_X} {A : Nat → Prop} {d : Nat} {Q : State → Prop} {kc ks b L i : Nat} {xs : Nat → Int32} {M : gb_M} (O : gC G X A code 4 RL d) (hd : 11 ≤ d) (g : gL G X A b L xs kc ks) (hi : i + 4 < L) (hI : iL G M) (hk : ∀ M', iL G M' → Wl G X A 4 Q 1135 (lvL G b i) [] (gb_pl (gb_ad G) (gb_N G) M') kc ks) : Wl G X A 4 Q 1046 (lvL G b i) [] (gb_pl (gb_ad G) (gb_N G) M) kc ks := by
  obtain ⟨T, im, kp, bs, ln, fa, st, sf, sn, sh, sc, tn, hC, hM⟩ := hI
  refine l_aload_n (n := 1047) O dL_law_1046 rfl rfl rfl ?_
  refine l_arg (j := 1) (n := 1052) O g dL_law_1047 dL_law_1048 dL_law_1049 (by decide) dL_law_1050 dL_law_1051 (by omega) rfl ?_
  refine l_arg (j := 2) (n := 1057) O g dL_law_1052 dL_law_1053 dL_law_1054 (by decide) dL_law_1055 dL_law_1056 (by omega) rfl ?_
  refine l_arg (j := 3) (n := 1062) O g dL_law_1057 dL_law_1058 dL_law_1059 (by decide) dL_law_1060 dL_law_1061 (by omega) rfl ?_
  refine l_arg (j := 4) (n := 1067) O g dL_law_1062 dL_law_1063 dL_law_1064 (by decide) dL_law_1065 dL_law_1066 (by omega) rfl ?_
  refine l_callF (c := 0) (ci := 6) (As := [.int (xs (i + 1)), .int (xs (i + 2)), .int (xs (i + 3)), .int (xs (i + 4))]) (n := 1070) O g dL_law_1067 ul_L_146 um_X6_read (fun _ hQ => f_X6_read g.1 hC hQ) rfl (by decide) hC.obj rfl rfl rfl (Nat.le_trans (by decide) hd) (Nat.le_of_ble_eq_true rfl) rfl (fun M1 hC1 s1 => ?_)
  have hM1 := hM.kp (kp_sm s1 (by omega))
  refine l_aload_n (n := 1071) O dL_law_1070 rfl rfl rfl ?_
  refine l_arg (j := 1) (n := 1076) O g dL_law_1071 dL_law_1072 dL_law_1073 (by decide) dL_law_1074 dL_law_1075 (by omega) rfl ?_
  refine l_arg (j := 2) (n := 1081) O g dL_law_1076 dL_law_1077 dL_law_1078 (by decide) dL_law_1079 dL_law_1080 (by omega) rfl ?_
  refine l_arg (j := 3) (n := 1086) O g dL_law_1081 dL_law_1082 dL_law_1083 (by decide) dL_law_1084 dL_law_1085 (by omega) rfl ?_
  refine l_arg (j := 4) (n := 1091) O g dL_law_1086 dL_law_1087 dL_law_1088 (by decide) dL_law_1089 dL_law_1090 (by omega) rfl ?_
  refine l_callF (c := 49) (ci := 7) (As := [.int (xs (i + 1)), .int (xs (i + 2)), .int (xs (i + 3)), .int (xs (i + 4))]) (n := 1094) O g dL_law_1091 ul_L_150 um_X7_read (fun _ hQ => f_X7_read g.1 hC.2.2.1 hM1 hQ) rfl (by decide) hM1.obj rfl rfl rfl (Nat.le_trans (by decide) hd) (Nat.le_of_ble_eq_true rfl) rfl (fun M2 hM2 s2 => ?_)
  have hk := hk M2 ⟨_, _, _, _, _, _, _, _, _, _, _, _, hC1.kp s2, hM2⟩
  exact l_icmp_eq (tgt := 1135) (n := 1097) O dL_law_1094 (by decide) rfl (fun _ => hk) (fun q => absurd rfl q)
set_option maxRecDepth 20000 in
theorem law_torn {G : gb_G} {X : gb_X} {A : Nat → Prop} {d : Nat} {Q : State → Prop} {kc ks b L i : Nat} {xs : Nat → Int32} {M : gb_M} (O : gC G X A code 4 RL d) (hd : 11 ≤ d) (g : gL G X A b L xs kc ks) (hi : i + 4 < L) (hI : iL G M) (hk : ∀ M', iL G M' → Wl G X A 4 Q 1135 (lvL G b i) [] (gb_pl (gb_ad G) (gb_N G) M') kc ks) : Wl G X A 4 Q 1099 (lvL G b i) [] (gb_pl (gb_ad G) (gb_N G) M) kc ks := by
  obtain ⟨T, im, kp, bs, ln, fa, st, sf, sn, sh, sc, tn, hC, hM⟩ := hI
  refine l_aload_n (n := 1100) O dL_law_1099 rfl rfl rfl ?_
  refine l_callF (c := 0) (ci := 6) (As := []) (n := 1103) O g dL_law_1100 ul_L_151 um_X6_torn (fun _ hQ => f_X6_torn g.1 hC hQ) rfl (by decide) hC.obj rfl rfl rfl (Nat.le_trans (by decide) hd) (Nat.le_of_ble_eq_true rfl) rfl (fun M1 hC1 s1 => ?_)
  have hM1 := hM.kp (kp_sm s1 (by omega))
  refine l_aload_n (n := 1104) O dL_law_1103 rfl rfl rfl ?_
  refine l_callF (c := 49) (ci := 7) (As := []) (n := 1107) O g dL_law_1104 ul_L_154 um_X7_torn (fun _ hQ => f_X7_torn g.1 hC.2.2.1 hM1 hQ) rfl (by decide) hM1.obj rfl rfl rfl (Nat.le_trans (by decide) hd) (Nat.le_of_ble_eq_true rfl) rfl (fun M2 hM2 s2 => ?_)
  have hk := hk M2 ⟨_, _, _, _, _, _, _, _, _, _, _, _, hC1.kp s2, hM2⟩
  exact l_icmp_eq (tgt := 1135) (n := 1110) O dL_law_1107 (by decide) rfl (fun _ => hk) (fun q => absurd rfl q)
set_option maxRecDepth 20000 in
theorem law_count {G : gb_G} {X : gb_X} {A : Nat → Prop} {d : Nat} {Q : State → Prop} {kc ks b L i : Nat} {xs : Nat → Int32} {M : gb_M} (O : gC G X A code 4 RL d) (hd : 11 ≤ d) (g : gL G X A b L xs kc ks) (hi : i + 4 < L) (hI : iL G M) (hk : ∀ M', iL G M' → Wl G X A 4 Q 1135 (lvL G b i) [] (gb_pl (gb_ad G) (gb_N G) M') kc ks) : Wl G X A 4 Q 1112 (lvL G b i) [] (gb_pl (gb_ad G) (gb_N G) M) kc ks := by
  obtain ⟨T, im, kp, bs, ln, fa, st, sf, sn, sh, sc, tn, hC, hM⟩ := hI
  refine l_aload_n (n := 1113) O dL_law_1112 rfl rfl rfl ?_
  refine l_arg (j := 1) (n := 1118) O g dL_law_1113 dL_law_1114 dL_law_1115 (by decide) dL_law_1116 dL_law_1117 (by omega) rfl ?_
  refine l_callF (c := 0) (ci := 6) (As := [.int (xs (i + 1))]) (n := 1121) O g dL_law_1118 ul_L_155 um_X6_count (fun _ hQ => f_X6_count g.1 hC hQ) rfl (by decide) hC.obj rfl rfl rfl (Nat.le_trans (by decide) hd) (Nat.le_of_ble_eq_true rfl) rfl (fun M1 hC1 s1 => ?_)
  have hM1 := hM.kp (kp_sm s1 (by omega))
  refine l_aload_n (n := 1122) O dL_law_1121 rfl rfl rfl ?_
  refine l_arg (j := 1) (n := 1127) O g dL_law_1122 dL_law_1123 dL_law_1124 (by decide) dL_law_1125 dL_law_1126 (by omega) rfl ?_
  refine l_callF (c := 49) (ci := 7) (As := [.int (xs (i + 1))]) (n := 1130) O g dL_law_1127 ul_L_158 um_X7_count (fun _ hQ => f_X7_count g.1 hC.2.2.1 hM1 hQ) rfl (by decide) hM1.obj rfl rfl rfl (Nat.le_trans (by decide) hd) (Nat.le_of_ble_eq_true rfl) rfl (fun M2 hM2 s2 => ?_)
  have hk := hk M2 ⟨_, _, _, _, _, _, _, _, _, _, _, _, hC1.kp s2, hM2⟩
  exact l_icmp_eq (tgt := 1135) (n := 1133) O dL_law_1130 (by decide) rfl (fun _ => hk) (fun q => absurd rfl q)
theorem law_more {i L : Nat} (hi : i ≤ 1000) (hL : L ≤ 320) (h : ¬ nI L - nI 5 < nI i) : i + 4 < L := by
  rw [Int32.lt_iff_toInt_lt, pk_sub_toInt (by omega) (by omega), nI_toInt (by omega)] at h
  omega
set_option maxRecDepth 20000 in
theorem law_loop {G : gb_G} {X : gb_X} {A : Nat → Prop} {d : Nat} {Q : State → Prop} {kc ks b L : Nat} {xs : Nat → Int32} (O : gC G X A code 4 RL d) (hd : 11 ≤ d) (g : gL G X A b L xs kc ks) (hend : ∀ i M, Wl G X A 4 Q 1141 (lvL G b i) [] (gb_pl (gb_ad G) (gb_N G) M) kc ks) : ∀ (f i : Nat) (M : gb_M), i ≤ L + 5 → L + 5 - i < f → iL G M → Wl G X A 4 Q 18 (lvL G b i) [] (gb_pl (gb_ad G) (gb_N G) M) kc ks
  | 0, i, M, _, h, _ => absurd h (by omega)
  | f + 1, i, M, hi, hf, hI => by
    have hL := g.2.2.2.2.2.1
    refine l_iload_n (n := 19) O dL_law_18 rfl rfl rfl ?_
    refine l_aload_n (n := 20) O dL_law_19 rfl rfl rfl ?_
    refine l_slen (n := 21) O g dL_law_20 rfl ?_
    refine l_iconst (n := 22) O dL_law_21 (v := nI 5) (by decide) rfl ?_
    refine l_isub (n := 23) O dL_law_22 rfl ?_
    refine l_icmp_gt (tgt := 1141) (n := 26) O dL_law_23 (by decide) rfl (fun _ => hend i M) (fun q => ?_)
    have hi4 := law_more (by omega) hL q
    have hk : ∀ M', iL G M' → Wl G X A 4 Q 1135 (lvL G b i) [] (gb_pl (gb_ad G) (gb_N G) M') kc ks := by
      intro M' hI'
      refine l_iinc (n := 1138) (lv' := lvL G b (i + 5)) (v := nI 5) O dL_law_1135 rfl (by decide) (by decide) (by rw [nI_add]; rfl) rfl ?_
      refine l_goto (tgt := 18) O dL_law_1138 (by decide) ?_
      exact law_loop O hd g hend f (i + 5) M' (by omega) (by omega) hI'
    refine l_aload_n (n := 27) O dL_law_26 rfl rfl rfl ?_
    refine l_iload_n (n := 28) O dL_law_27 rfl rfl rfl ?_
    refine l_sld (n := 29) O g rfl (show i < L by omega) dL_law_28 rfl ?_
    refine l_bipush (n := 31) O dL_law_29 (v := nI 63) (by decide) rfl ?_
    refine l_iand (n := 32) O dL_law_31 rfl ?_
    obtain ⟨j, hj, ej⟩ := pk_andE (xs i) (m := nI 63) 6 (by decide)
    refine l_top _ ej ?_
    by_cases hj2 : 34 < j
    · exact l_tableOut (tgt := 1135) O dL_law_32 (Or.inr (by rw [nI_toInt (by omega)]; omega)) (by decide) (hk M hI)
    · match j, hj2 with
      | 0, _ => exact l_tableIn (tgt := 188) O dL_law_32 (by decide) (by decide) rfl (by decide) (law_feed O hd g hi4 hI hk)
      | 1, _ => exact l_tableIn (tgt := 211) O dL_law_32 (by decide) (by decide) rfl (by decide) (law_end O hd g hi4 hI hk)
      | 2, _ => exact l_tableIn (tgt := 234) O dL_law_32 (by decide) (by decide) rfl (by decide) (law_text O hd g hi4 hI hk)
      | 3, _ => exact l_tableIn (tgt := 247) O dL_law_32 (by decide) (by decide) rfl (by decide) (law_fault O hd g hi4 hI hk)
      | 4, _ => exact l_tableIn (tgt := 260) O dL_law_32 (by decide) (by decide) rfl (by decide) (law_rule O hd g hi4 hI hk)
      | 5, _ => exact l_tableIn (tgt := 283) O dL_law_32 (by decide) (by decide) rfl (by decide) (law_giver O hd g hi4 hI hk)
      | 6, _ => exact l_tableIn (tgt := 316) O dL_law_32 (by decide) (by decide) rfl (by decide) (law_metal O hd g hi4 hI hk)
      | 7, _ => exact l_tableIn (tgt := 349) O dL_law_32 (by decide) (by decide) rfl (by decide) (law_bell O hd g hi4 hI hk)
      | 8, _ => exact l_tableIn (tgt := 372) O dL_law_32 (by decide) (by decide) rfl (by decide) (law_tap O hd g hi4 hI hk)
      | 9, _ => exact l_tableIn (tgt := 395) O dL_law_32 (by decide) (by decide) rfl (by decide) (law_alter O hd g hi4 hI hk)
      | 10, _ => exact l_tableIn (tgt := 438) O dL_law_32 (by decide) (by decide) rfl (by decide) (law_add O hd g hi4 hI hk)
      | 11, _ => exact l_tableIn (tgt := 471) O dL_law_32 (by decide) (by decide) rfl (by decide) (law_ask O hd g hi4 hI hk)
      | 12, _ => exact l_tableIn (tgt := 504) O dL_law_32 (by decide) (by decide) rfl (by decide) (law_ring O hd g hi4 hI hk)
      | 13, _ => exact l_tableIn (tgt := 527) O dL_law_32 (by decide) (by decide) rfl (by decide) (law_mine O hd g hi4 hI hk)
      | 14, _ => exact l_tableIn (tgt := 550) O dL_law_32 (by decide) (by decide) rfl (by decide) (law_least O hd g hi4 hI hk)
      | 15, _ => exact l_tableIn (tgt := 573) O dL_law_32 (by decide) (by decide) rfl (by decide) (law_casts O hd g hi4 hI hk)
      | 16, _ => exact l_tableIn (tgt := 596) O dL_law_32 (by decide) (by decide) rfl (by decide) (law_spare O hd g hi4 hI hk)
      | 17, _ => exact l_tableIn (tgt := 619) O dL_law_32 (by decide) (by decide) rfl (by decide) (law_without O hd g hi4 hI hk)
      | 18, _ => exact l_tableIn (tgt := 642) O dL_law_32 (by decide) (by decide) rfl (by decide) (law_lasts O hd g hi4 hI hk)
      | 19, _ => exact l_tableIn (tgt := 655) O dL_law_32 (by decide) (by decide) rfl (by decide) (law_swap O hd g hi4 hI hk)
      | 20, _ => exact l_tableIn (tgt := 668) O dL_law_32 (by decide) (by decide) rfl (by decide) (law_mean O hd g hi4 hI hk)
      | 21, _ => exact l_tableIn (tgt := 702) O dL_law_32 (by decide) (by decide) rfl (by decide) (law_luck O hd g hi4 hI hk)
      | 22, _ => exact l_tableIn (tgt := 736) O dL_law_32 (by decide) (by decide) rfl (by decide) (law_see O hd g hi4 hI hk)
      | 23, _ => exact l_tableIn (tgt := 769) O dL_law_32 (by decide) (by decide) rfl (by decide) (law_forget O hd g hi4 hI hk)
      | 24, _ => exact l_tableIn (tgt := 792) O dL_law_32 (by decide) (by decide) rfl (by decide) (law_fits O hd g hi4 hI hk)
      | 25, _ => exact l_tableIn (tgt := 815) O dL_law_32 (by decide) (by decide) rfl (by decide) (law_range O hd g hi4 hI hk)
      | 26, _ => exact l_tableIn (tgt := 848) O dL_law_32 (by decide) (by decide) rfl (by decide) (law_next O hd g hi4 hI hk)
      | 27, _ => exact l_tableIn (tgt := 871) O dL_law_32 (by decide) (by decide) rfl (by decide) (law_drift O hd g hi4 hI hk)
      | 28, _ => exact l_tableIn (tgt := 914) O dL_law_32 (by decide) (by decide) rfl (by decide) (law_keep O hd g hi4 hI hk)
      | 29, _ => exact l_tableIn (tgt := 937) O dL_law_32 (by decide) (by decide) rfl (by decide) (law_back O hd g hi4 hI hk)
      | 30, _ => exact l_tableIn (tgt := 960) O dL_law_32 (by decide) (by decide) rfl (by decide) (law_sheet O hd g hi4 hI hk)
      | 31, _ => exact l_tableIn (tgt := 1003) O dL_law_32 (by decide) (by decide) rfl (by decide) (law_lay O hd g hi4 hI hk)
      | 32, _ => exact l_tableIn (tgt := 1046) O dL_law_32 (by decide) (by decide) rfl (by decide) (law_read O hd g hi4 hI hk)
      | 33, _ => exact l_tableIn (tgt := 1099) O dL_law_32 (by decide) (by decide) rfl (by decide) (law_torn O hd g hi4 hI hk)
      | 34, _ => exact l_tableIn (tgt := 1112) O dL_law_32 (by decide) (by decide) rfl (by decide) (law_count O hd g hi4 hI hk)
      | k + 35, q => exact absurd q (by omega)
