def clN (n : Nat) : Nat := if n < 4 then n + 4 else if n < 8 then n - 4 else n
theorem cut_ok : ∀ n, n < 12 → gb_cut n ≤ gb_cut (n + 1) ∧ gb_cut (n + 1) ≤ 52 ∧ gb_cut (n + 1) - gb_cut n = tL (clN n) ∧ clN n < 12 := by decide +kernel
theorem let_ok : ∀ n, n < 12 → ∀ k, k < 6 → k < tL (clN n) → gb_let (gb_cut n + k) = tC (clN n) k ∧ gb_let (gb_cut n + k) ≤ 127 := by decide +kernel
theorem wd_one : ∀ i, i < 12 → ∀ j, j < 12 → tL i = tL j → (∀ k, k < 6 → k < tL i → tC i k = tC j k) → i = j := by decide +kernel
theorem nmB_stop {bs : Nat → Nat} {sa i k : Nat} (h : nmB bs sa i k = false) : ∀ {n : Nat}, k ≤ n → nmB bs sa i n = false
  | 0, q => by rw [show k = 0 by omega] at h; exact h
  | n + 1, q => by
    rcases Nat.eq_or_lt_of_le q with e | e
    · rw [← e]; exact h
    · simp only [nmB, nmB_stop h (show k ≤ n by omega), Bool.false_and]
theorem tkIs_one {bs : Nat → Nat} {so sa pl i j : Nat} (hi : i < 12) (hj : j < 12) (h1 : tkIs bs so sa pl i = true) (h2 : tkIs bs so sa pl j = true) : i = j := by
  unfold tkIs at h1 h2
  rw [Bool.and_eq_true, Bool.and_eq_true, decide_eq_true_eq, decide_eq_true_eq] at h1 h2
  refine wd_one i hi j hj (h1.1.2.symm.trans h2.1.2) (fun k _ hk => ?_)
  rw [← nmB_t.mp h1.2 k hk]
  exact nmB_t.mp h2.2 k (by rw [← h2.1.2, h1.1.2]; exact hk)
/-- the name's number, as the model counts -/
def nmO (bs : Nat → Nat) (sa pl : Nat) : Option Nat := sFirst (fun n => tkIs bs 2 sa pl (clN n)) 12
def nmI (bs : Nat → Nat) (tk sa pl : Nat) : Int32 := if tk = 1 then oI (nmO bs sa pl) else -4
theorem cl_inj : ∀ n, n < 12 → ∀ m, m < 12 → clN n = clN m → n = m := by decide +kernel
theorem nmO_some {bs : Nat → Nat} {sa pl n : Nat} (hn : n < 12) (h : tkIs bs 2 sa pl (clN n) = true) : nmO bs sa pl = some n := by
  refine sF_at (P := fun n => tkIs bs 2 sa pl (clN n)) h (fun c hc => ?_) hn
  show tkIs bs 2 sa pl (clN c) = false
  cases e : tkIs bs 2 sa pl (clN c) with
  | false => rfl
  | true =>
    have := cl_inj c (by omega) n hn (tkIs_one (cut_ok c (by omega)).2.2.2 (cut_ok n hn).2.2.2 e h)
    omega
theorem nmO_in {bs : Nat → Nat} {sa pl n : Nat} (h : nmO bs sa pl = some n) : n < 12 ∧ tkIs bs 2 sa pl (clN n) = true := by
  have key : ∀ m, sFirst (fun n => tkIs bs 2 sa pl (clN n)) m = some n → n < m ∧ tkIs bs 2 sa pl (clN n) = true := by
    intro m
    induction m with
    | zero => intro z; cases z
    | succ m ih =>
      intro z
      simp only [sFirst] at z
      by_cases q : (sFirst (fun n => tkIs bs 2 sa pl (clN n)) m).isSome = true
      · rw [if_pos q] at z
        have := ih z
        exact ⟨by omega, this.2⟩
      · rw [if_neg q] at z
        by_cases w : tkIs bs 2 sa pl (clN m) = true
        · rw [if_pos w] at z; cases z; exact ⟨by omega, w⟩
        · rw [if_neg w] at z; cases z
  exact key 12 h
def clI (i : Nat) : Nat := if i < 4 then i + 4 else if i < 8 then i - 4 else i
theorem nm_others {bs : Nat → Nat} {sa pl : Nat} {o : Option Nat} (h : nmO bs sa pl = o) : ∀ i, i < 12 → tkIs bs 2 sa pl i = decide (o = some (clI i)) := by
  intro i hi
  have hc : clN (clI i) = i ∧ clI i < 12 := (show ∀ i, i < 12 → clN (clI i) = i ∧ clI i < 12 by decide +kernel) i hi
  cases e : tkIs bs 2 sa pl i with
  | true =>
    have := nmO_some (bs := bs) (sa := sa) (pl := pl) hc.2 (by rw [hc.1]; exact e)
    rw [h] at this
    rw [decide_eq_true this]
  | false =>
    rw [decide_eq_false]
    intro z
    rw [z] at h
    have := (nmO_in h).2
    rw [hc.1, e] at this
    exact absurd this (by decide)
theorem tkIs_no {bs : Nat → Nat} {so sa pl i : Nat} (h : ¬ so = 2) : tkIs bs so sa pl i = false := by
  unfold tkIs
  rw [decide_eq_false h]
  rfl
theorem nm_lt {bs : Nat → Nat} {sa pl k : Nat} (h : nmO bs sa pl = some k) : k < 12 := (nmO_in h).1
def nmM (o : Option Nat) : Nat := match o with
  | none => 4
  | some k => if 8 ≤ k then k - 8 else 4
def nmK (o : Option Nat) : Nat := match o with
  | none => 4
  | some k => if k < 4 then k else 4
def nmW (o : Option Nat) : Nat := match o with
  | none => 5
  | some k => if k < 4 then 0 else if k < 8 then k - 3 else 5
theorem nm_all : ∀ k, k < 12 → (if decide (some k = some (clI 8)) = true then 0 else if decide (some k = some (clI 9)) = true then 1 else if decide (some k = some (clI 10)) = true then 2 else if decide (some k = some (clI 11)) = true then 3 else 4) = nmM (some k) ∧ (if decide (some k = some (clI 4)) = true then 0 else if decide (some k = some (clI 5)) = true then 1 else if decide (some k = some (clI 6)) = true then 2 else if decide (some k = some (clI 7)) = true then 3 else 4) = nmK (some k) ∧ (if nmK (some k) < 4 then 0 else if decide (some k = some (clI 0)) = true then 1 else if decide (some k = some (clI 1)) = true then 2 else if decide (some k = some (clI 2)) = true then 3 else if decide (some k = some (clI 3)) = true then 4 else 5) = nmW (some k) := by decide +kernel
theorem nm_words {bs : Nat → Nat} {sa pl : Nat} {o : Option Nat} (h : nmO bs sa pl = o) : tkM bs 2 sa pl = nmM o ∧ tkK bs 2 sa pl = nmK o ∧ wdN bs 2 sa pl = nmW o := by
  have z := nm_others h
  have eM : tkM bs 2 sa pl = nmM o := by
    unfold tkM
    rw [z 8 (by decide), z 9 (by decide), z 10 (by decide), z 11 (by decide)]
    cases o with
    | none => rfl
    | some k => exact (nm_all k (nm_lt h)).1
  have eK : tkK bs 2 sa pl = nmK o := by
    unfold tkK
    rw [z 4 (by decide), z 5 (by decide), z 6 (by decide), z 7 (by decide)]
    cases o with
    | none => rfl
    | some k => exact (nm_all k (nm_lt h)).2.1
  refine ⟨eM, eK, ?_⟩
  unfold wdN
  rw [eK, z 0 (by decide), z 1 (by decide), z 2 (by decide), z 3 (by decide)]
  cases o with
  | none => rfl
  | some k => exact (nm_all k (nm_lt h)).2.2
theorem no_words {bs : Nat → Nat} {so sa pl : Nat} (h : ¬ so = 2) : tkM bs so sa pl = 4 ∧ tkK bs so sa pl = 4 ∧ wdN bs so sa pl = 5 := by
  have z := fun i => tkIs_no (bs := bs) (sa := sa) (pl := pl) (i := i) h
  have eK : tkK bs so sa pl = 4 := by
    unfold tkK
    simp [z]
  refine ⟨by unfold tkM; simp [z], eK, ?_⟩
  unfold wdN
  rw [eK]
  simp [z]
set_option maxRecDepth 100000 in
set_option maxHeartbeats 4000000 in
theorem f_X7_nameHere {G : gb_G} (hW : gW G) {Q : Option Value → gb_M → Prop} {mM : gb_M} {Y : Nat → Int32} {bs rp : Nat → Nat} {ln rg : Nat} {ia : Bool} {ht ad hw br ba sp he tk va : Nat} (hR : isR G mM Y bs rp ln rg ia ht ad hw br ba sp he tk va) (hln : ln ≤ 160) (hbs : ∀ k, k < ln → bs k ≤ 127) (hhs : he ≤ sp) (hsl : sp ≤ ln) (htk3 : tk ≤ 3)  (hQ : Q (some (.int (nmI bs tk he sp))) mM) : Fn G 1 yX7_nameHere cX7_nameHere 4 (some .int) [.ref (gb_ad G 49)] mM Q := by
  have hN := hW.2.2.1
  refine Fn.of hW.1 [(0, .ref (gb_ad G 49))] (by decide) (Nat.le_of_ble_eq_true rfl) rfl ?_
  intro X O
  refine w_iconst (n := 1) O dX7_nameHere_0 (v := (nI 0)) (by decide) rfl ?_
  refine w_istore_n (n := 2) (lv' := [(1, .int (nI 0)), (0, .ref (gb_ad G 49))]) O dX7_nameHere_1 rfl (by decide) rfl rfl ?_
  have NO : ∀ (k : Nat) (n : Nat), 12 - n = k → n ≤ 12 → (∀ c, c < n → tkIs bs 2 he sp (clN c) = false) → Wm G X 4 Q 2 [(0, .ref (gb_ad G 49)), (1, .int (nI (n)))] [] mM := by
    intro k
    induction k using Nat.strongRecOn with
    | ind k ih_NO =>
      intro n hk hn hno
      refine w_iload_n (n := 3) O dX7_nameHere_2 rfl rfl rfl ?_
      refine w_bipush (n := 5) O dX7_nameHere_3 (v := (nI 12)) (by decide) rfl ?_
      refine w_icmp_geN (n := 8) (tgt := 118) O dX7_nameHere_5 (by omega) (by omega) (by decide) rfl (fun c_1 => ?_) (fun c_1 => ?_)
      · skip
        refine w_bipush (n := 120) O dX7_nameHere_118 (v := (-4)) (by decide) rfl ?_
        refine w_iret O dX7_nameHere_120 ?_
        have e : nmI bs tk he sp = -4 := by unfold nmI; by_cases z : tk = 1; (rw [if_pos z, show nmO bs he sp = none from sF_none (fun c hc => hno c (by omega))]; rfl); exact if_neg z
        rw [e] at hQ
        exact hQ
      · skip
        refine w_aload_n (n := 9) O dX7_nameHere_8 rfl rfl rfl ?_
        refine w_getf (n := 12) O 15 dX7_nameHere_9 (by omega) hR.1 rfl (by decide) uX7 uf_X7_66 rfl rfl ?_
        refine w_iconst (n := 13) O dX7_nameHere_12 (v := (nI 1)) (by decide) rfl ?_
        refine w_icmp_neN (n := 16) (tgt := 118) O dX7_nameHere_13 (by omega) (by omega) (by decide) rfl (fun c_2 => ?_) (fun c_2 => ?_)
        · skip
          refine w_bipush (n := 120) O dX7_nameHere_118 (v := (-4)) (by decide) rfl ?_
          refine w_iret O dX7_nameHere_120 ?_
          have e : nmI bs tk he sp = -4 := if_neg c_2
          rw [e] at hQ
          exact hQ
        · skip
          obtain ⟨hc1, hc2, hc3, hc4⟩ := cut_ok n (by omega)
          have ht6 := tL_lt (clN n) hc4
          refine w_aload_n (n := 17) O dX7_nameHere_16 rfl rfl rfl ?_
          refine w_getf (n := 20) O 13 dX7_nameHere_17 (by omega) hR.1 rfl (by decide) uX7 uf_X7_69 rfl rfl ?_
          refine w_aload_n (n := 21) O dX7_nameHere_20 rfl rfl rfl ?_
          refine w_getf (n := 24) O 14 dX7_nameHere_21 (by omega) hR.1 rfl (by decide) uX7 uf_X7_60 rfl rfl ?_
          refine w_isubN (n := 25) O dX7_nameHere_24 (by omega) rfl ?_
          refine w_aload_n (n := 26) O dX7_nameHere_25 rfl rfl rfl ?_
          refine w_getf (n := 29) O 17 dX7_nameHere_26 (by omega) hR.1 rfl (by decide) uX7 uf_X7_19 rfl rfl ?_
          refine w_iload_n (n := 30) O dX7_nameHere_29 rfl rfl rfl ?_
          refine w_iconst (n := 31) O dX7_nameHere_30 (v := (nI 1)) (by decide) rfl ?_
          refine w_iaddN (n := 32) O dX7_nameHere_31 rfl ?_
          refine w_ialdN (n := 33) O dX7_nameHere_32 hW.2.1 (by omega) hR.2.2.2.1 (by omega) (by decide) rfl ?_
          refine w_aload_n (n := 34) O dX7_nameHere_33 rfl rfl rfl ?_
          refine w_getf (n := 37) O 17 dX7_nameHere_34 (by omega) hR.1 rfl (by decide) uX7 uf_X7_19 rfl rfl ?_
          refine w_iload_n (n := 38) O dX7_nameHere_37 rfl rfl rfl ?_
          refine w_ialdN (n := 39) O dX7_nameHere_38 hW.2.1 (by omega) hR.2.2.2.1 (by omega) (by decide) rfl ?_
          refine w_isubN (n := 40) O dX7_nameHere_39 (by omega) rfl ?_
          refine w_icmp_neN (n := 43) (tgt := 47) O dX7_nameHere_40 (by omega) (by omega) (by decide) rfl (fun c_3 => ?_) (fun c_3 => ?_)
          · skip
            refine w_iconst (n := 48) O dX7_nameHere_47 (v := (nI 0)) (by decide) rfl ?_
            refine w_istore_n (n := 49) (lv' := [(2, .int (nI 0)), (0, .ref (gb_ad G 49)), (1, .int (nI (n)))]) O dX7_nameHere_48 rfl (by decide) rfl rfl ?_
            refine w_iconst (n := 50) O dX7_nameHere_49 (v := (nI 0)) (by decide) rfl ?_
            refine w_istore_n (n := 51) (lv' := [(3, .int (nI 0)), (2, .int (nI 0)), (0, .ref (gb_ad G 49)), (1, .int (nI (n)))]) O dX7_nameHere_50 rfl (by decide) rfl rfl ?_
            have NI : ∀ (k : Nat) (kk : Nat) (sa : Bool), sp - he - kk = k → kk ≤ sp - he → sa = (decide (sp - he = tL (clN n)) && nmB bs he (clN n) kk) → Wm G X 4 Q 51 [(0, .ref (gb_ad G 49)), (1, .int (nI (n))), (2, .int (bI (sa))), (3, .int (nI (kk)))] [] mM := by
              intro k
              induction k using Nat.strongRecOn with
              | ind k ih_NI =>
                intro kk sa hk hkk hsa
                refine w_iload_n (n := 52) O dX7_nameHere_51 rfl rfl rfl ?_
                refine w_if_eqB (n := 55) (tgt := 106) O dX7_nameHere_52 (by decide) rfl (fun c_4 => ?_) (fun c_4 => ?_)
                · skip
                  have htk : tkIs bs 2 he sp (clN n) = sa := by rw [c_4]; unfold tkIs; rw [c_4] at hsa; by_cases z : sp - he = tL (clN n); (rw [decide_eq_true z, Bool.true_and] at hsa; rw [nmB_stop hsa.symm (show kk ≤ tL (clN n) by omega), Bool.and_false]); (rw [decide_eq_false z, Bool.and_false]; rfl)
                  refine w_iload_n (n := 107) O dX7_nameHere_106 rfl rfl rfl ?_
                  refine w_if_eqB (n := 110) (tgt := 112) O dX7_nameHere_107 (by decide) rfl (fun c_5 => ?_) (fun c_5 => ?_)
                  · skip
                    refine w_iincN (n := 115) (lv' := [(1, .int (nI (n + 1))), (0, .ref (gb_ad G 49)), (2, .int (bI (sa))), (3, .int (nI (kk)))]) O dX7_nameHere_112 rfl (by decide) rfl rfl ?_
                    refine w_goto (tgt := 2) O dX7_nameHere_115 (by decide) ?_
                    refine w_lv (lv2 := [(0, .ref (gb_ad G 49)), (1, .int (nI (n + 1)))]) [1, 0] rfl ?_
                    exact ih_NO _ (by omega) (n + 1) rfl (by omega) (fun c hc => by rcases Nat.lt_or_ge c n with z | z; exact hno c z; rw [show c = n by omega, htk]; exact c_5)
                  · skip
                    refine w_iload_n (n := 111) O dX7_nameHere_110 rfl rfl rfl ?_
                    refine w_iret O dX7_nameHere_111 ?_
                    have e : nmI bs tk he sp = nI n := by unfold nmI; rw [if_pos c_2, nmO_some (by omega) (htk.trans c_5)]; rfl
                    rw [e] at hQ
                    exact hQ
                · skip
                  refine w_iload_n (n := 56) O dX7_nameHere_55 rfl rfl rfl ?_
                  refine w_aload_n (n := 57) O dX7_nameHere_56 rfl rfl rfl ?_
                  refine w_getf (n := 60) O 13 dX7_nameHere_57 (by omega) hR.1 rfl (by decide) uX7 uf_X7_69 rfl rfl ?_
                  refine w_aload_n (n := 61) O dX7_nameHere_60 rfl rfl rfl ?_
                  refine w_getf (n := 64) O 14 dX7_nameHere_61 (by omega) hR.1 rfl (by decide) uX7 uf_X7_60 rfl rfl ?_
                  refine w_isubN (n := 65) O dX7_nameHere_64 (by omega) rfl ?_
                  refine w_icmp_geN (n := 68) (tgt := 106) O dX7_nameHere_65 (by omega) (by omega) (by decide) rfl (fun c_6 => ?_) (fun c_6 => ?_)
                  · skip
                    have htk : tkIs bs 2 he sp (clN n) = sa := by rw [hsa]; unfold tkIs; by_cases z : sp - he = tL (clN n); (rw [decide_eq_true z, show kk = tL (clN n) by omega]; rfl); (rw [decide_eq_false z, Bool.and_false]; rfl)
                    refine w_iload_n (n := 107) O dX7_nameHere_106 rfl rfl rfl ?_
                    refine w_if_eqB (n := 110) (tgt := 112) O dX7_nameHere_107 (by decide) rfl (fun c_7 => ?_) (fun c_7 => ?_)
                    · skip
                      refine w_iincN (n := 115) (lv' := [(1, .int (nI (n + 1))), (0, .ref (gb_ad G 49)), (2, .int (bI (sa))), (3, .int (nI (kk)))]) O dX7_nameHere_112 rfl (by decide) rfl rfl ?_
                      refine w_goto (tgt := 2) O dX7_nameHere_115 (by decide) ?_
                      refine w_lv (lv2 := [(0, .ref (gb_ad G 49)), (1, .int (nI (n + 1)))]) [1, 0] rfl ?_
                      exact ih_NO _ (by omega) (n + 1) rfl (by omega) (fun c hc => by rcases Nat.lt_or_ge c n with z | z; exact hno c z; rw [show c = n by omega, htk]; exact c_7)
                    · skip
                      refine w_iload_n (n := 111) O dX7_nameHere_110 rfl rfl rfl ?_
                      refine w_iret O dX7_nameHere_111 ?_
                      have e : nmI bs tk he sp = nI n := by unfold nmI; rw [if_pos c_2, nmO_some (by omega) (htk.trans c_7)]; rfl
                      rw [e] at hQ
                      exact hQ
                  · skip
                    have hsat : sp - he = tL (clN n) := by have z := hsa; rw [c_4] at z; exact of_decide_eq_true (Bool.and_eq_true_iff.mp z.symm).1
                    obtain ⟨hle1, hle2⟩ := let_ok n (by omega) kk (by omega) (by omega)
                    have hbk := hbs (he + kk) (by omega)
                    refine w_aload_n (n := 69) O dX7_nameHere_68 rfl rfl rfl ?_
                    refine w_aload_n (n := 70) O dX7_nameHere_69 rfl rfl rfl ?_
                    refine w_getf (n := 73) O 14 dX7_nameHere_70 (by omega) hR.1 rfl (by decide) uX7 uf_X7_60 rfl rfl ?_
                    refine w_iload_n (n := 74) O dX7_nameHere_73 rfl rfl rfl ?_
                    refine w_iaddN (n := 75) O dX7_nameHere_74 rfl ?_
                    refine w_cV (n := 78) (ro := some (.int (byI bs ln (he + kk)))) (R := fun mM' => mM = mM') (st := []) (st1 := [.int (byI bs ln (he + kk))]) (As := [.int (nI ((he + kk)))]) (b := 49) O dX7_nameHere_75 ul_X7_72 um_X7_byteAt (f_X7_byteAt hW ⟨hR.1, hR.2.1, hR.2.2.1, hR.2.2.2.1, hR.2.2.2.2⟩ hln hbs (by omega) ⟨rfl, rfl⟩) rfl (by omega) hR.1 rfl rfl rfl rfl (by decide) (Nat.le_of_ble_eq_true rfl) rfl (fun mhM_8 hM_8 => ?_)
                    subst hM_8
                    refine w_top (nI (bs (he + kk))) (byI_at (by omega)) ?_
                    refine w_aload_n (n := 79) O dX7_nameHere_78 rfl rfl rfl ?_
                    refine w_getf (n := 82) O 18 dX7_nameHere_79 (by omega) hR.1 rfl (by decide) uX7 uf_X7_22 rfl rfl ?_
                    refine w_aload_n (n := 83) O dX7_nameHere_82 rfl rfl rfl ?_
                    refine w_getf (n := 86) O 17 dX7_nameHere_83 (by omega) hR.1 rfl (by decide) uX7 uf_X7_19 rfl rfl ?_
                    refine w_iload_n (n := 87) O dX7_nameHere_86 rfl rfl rfl ?_
                    refine w_ialdN (n := 88) O dX7_nameHere_87 hW.2.1 (by omega) hR.2.2.2.1 (by omega) (by decide) rfl ?_
                    refine w_iload_n (n := 89) O dX7_nameHere_88 rfl rfl rfl ?_
                    refine w_iaddN (n := 90) O dX7_nameHere_89 rfl ?_
                    refine w_ialdN (n := 91) O dX7_nameHere_90 hW.2.1 (by omega) hR.2.2.2.2 (by omega) (by decide) rfl ?_
                    refine w_icmp_neN (n := 94) (tgt := 98) O dX7_nameHere_91 (by omega) (by omega) (by decide) rfl (fun c_9 => ?_) (fun c_9 => ?_)
                    · skip
                      refine w_iconst (n := 99) O dX7_nameHere_98 (v := (nI 0)) (by decide) rfl ?_
                      refine w_istore_n (n := 100) (lv' := [(2, .int (nI 0)), (0, .ref (gb_ad G 49)), (1, .int (nI (n))), (3, .int (nI (kk)))]) O dX7_nameHere_99 rfl (by decide) rfl rfl ?_
                      refine w_iincN (n := 103) (lv' := [(3, .int (nI (kk + 1))), (2, .int (nI 0)), (0, .ref (gb_ad G 49)), (1, .int (nI (n)))]) O dX7_nameHere_100 rfl (by decide) rfl rfl ?_
                      refine w_goto (tgt := 51) O dX7_nameHere_103 (by decide) ?_
                      refine w_lv (lv2 := [(0, .ref (gb_ad G 49)), (1, .int (nI (n))), (2, .int (nI 0)), (3, .int (nI (kk + 1)))]) [2, 3, 1, 0] rfl ?_
                      exact ih_NI _ (by omega) (kk + 1) false rfl (by omega) (by rw [nmB, ← Bool.and_assoc, ← hsa, c_4, decide_eq_false (show ¬ bs (he + kk) = tC (clN n) kk by omega)]; rfl)
                    · skip
                      refine w_iconst (n := 95) O dX7_nameHere_94 (v := (nI 1)) (by decide) rfl ?_
                      refine w_goto (tgt := 99) O dX7_nameHere_95 (by decide) ?_
                      refine w_istore_n (n := 100) (lv' := [(2, .int (nI 1)), (0, .ref (gb_ad G 49)), (1, .int (nI (n))), (3, .int (nI (kk)))]) O dX7_nameHere_99 rfl (by decide) rfl rfl ?_
                      refine w_iincN (n := 103) (lv' := [(3, .int (nI (kk + 1))), (2, .int (nI 1)), (0, .ref (gb_ad G 49)), (1, .int (nI (n)))]) O dX7_nameHere_100 rfl (by decide) rfl rfl ?_
                      refine w_goto (tgt := 51) O dX7_nameHere_103 (by decide) ?_
                      refine w_lv (lv2 := [(0, .ref (gb_ad G 49)), (1, .int (nI (n))), (2, .int (nI 1)), (3, .int (nI (kk + 1)))]) [2, 3, 1, 0] rfl ?_
                      exact ih_NI _ (by omega) (kk + 1) true rfl (by omega) (by rw [nmB, ← Bool.and_assoc, ← hsa, c_4, decide_eq_true (show bs (he + kk) = tC (clN n) kk by omega)]; rfl)
            refine w_lv (lv2 := [(0, .ref (gb_ad G 49)), (1, .int (nI (n))), (2, .int (nI 0)), (3, .int (nI 0))]) [2, 3, 1, 0] rfl ?_
            exact NI _ 0 false rfl (by omega) (by rw [decide_eq_false (show ¬ sp - he = tL (clN n) by omega)]; rfl)
          · skip
            refine w_iconst (n := 44) O dX7_nameHere_43 (v := (nI 1)) (by decide) rfl ?_
            refine w_goto (tgt := 48) O dX7_nameHere_44 (by decide) ?_
            refine w_istore_n (n := 49) (lv' := [(2, .int (nI 1)), (0, .ref (gb_ad G 49)), (1, .int (nI (n)))]) O dX7_nameHere_48 rfl (by decide) rfl rfl ?_
            refine w_iconst (n := 50) O dX7_nameHere_49 (v := (nI 0)) (by decide) rfl ?_
            refine w_istore_n (n := 51) (lv' := [(3, .int (nI 0)), (2, .int (nI 1)), (0, .ref (gb_ad G 49)), (1, .int (nI (n)))]) O dX7_nameHere_50 rfl (by decide) rfl rfl ?_
            have NI : ∀ (k : Nat) (kk : Nat) (sa : Bool), sp - he - kk = k → kk ≤ sp - he → sa = (decide (sp - he = tL (clN n)) && nmB bs he (clN n) kk) → Wm G X 4 Q 51 [(0, .ref (gb_ad G 49)), (1, .int (nI (n))), (2, .int (bI (sa))), (3, .int (nI (kk)))] [] mM := by
              intro k
              induction k using Nat.strongRecOn with
              | ind k ih_NI =>
                intro kk sa hk hkk hsa
                refine w_iload_n (n := 52) O dX7_nameHere_51 rfl rfl rfl ?_
                refine w_if_eqB (n := 55) (tgt := 106) O dX7_nameHere_52 (by decide) rfl (fun c_10 => ?_) (fun c_10 => ?_)
                · skip
                  have htk : tkIs bs 2 he sp (clN n) = sa := by rw [c_10]; unfold tkIs; rw [c_10] at hsa; by_cases z : sp - he = tL (clN n); (rw [decide_eq_true z, Bool.true_and] at hsa; rw [nmB_stop hsa.symm (show kk ≤ tL (clN n) by omega), Bool.and_false]); (rw [decide_eq_false z, Bool.and_false]; rfl)
                  refine w_iload_n (n := 107) O dX7_nameHere_106 rfl rfl rfl ?_
                  refine w_if_eqB (n := 110) (tgt := 112) O dX7_nameHere_107 (by decide) rfl (fun c_11 => ?_) (fun c_11 => ?_)
                  · skip
                    refine w_iincN (n := 115) (lv' := [(1, .int (nI (n + 1))), (0, .ref (gb_ad G 49)), (2, .int (bI (sa))), (3, .int (nI (kk)))]) O dX7_nameHere_112 rfl (by decide) rfl rfl ?_
                    refine w_goto (tgt := 2) O dX7_nameHere_115 (by decide) ?_
                    refine w_lv (lv2 := [(0, .ref (gb_ad G 49)), (1, .int (nI (n + 1)))]) [1, 0] rfl ?_
                    exact ih_NO _ (by omega) (n + 1) rfl (by omega) (fun c hc => by rcases Nat.lt_or_ge c n with z | z; exact hno c z; rw [show c = n by omega, htk]; exact c_11)
                  · skip
                    refine w_iload_n (n := 111) O dX7_nameHere_110 rfl rfl rfl ?_
                    refine w_iret O dX7_nameHere_111 ?_
                    have e : nmI bs tk he sp = nI n := by unfold nmI; rw [if_pos c_2, nmO_some (by omega) (htk.trans c_11)]; rfl
                    rw [e] at hQ
                    exact hQ
                · skip
                  refine w_iload_n (n := 56) O dX7_nameHere_55 rfl rfl rfl ?_
                  refine w_aload_n (n := 57) O dX7_nameHere_56 rfl rfl rfl ?_
                  refine w_getf (n := 60) O 13 dX7_nameHere_57 (by omega) hR.1 rfl (by decide) uX7 uf_X7_69 rfl rfl ?_
                  refine w_aload_n (n := 61) O dX7_nameHere_60 rfl rfl rfl ?_
                  refine w_getf (n := 64) O 14 dX7_nameHere_61 (by omega) hR.1 rfl (by decide) uX7 uf_X7_60 rfl rfl ?_
                  refine w_isubN (n := 65) O dX7_nameHere_64 (by omega) rfl ?_
                  refine w_icmp_geN (n := 68) (tgt := 106) O dX7_nameHere_65 (by omega) (by omega) (by decide) rfl (fun c_12 => ?_) (fun c_12 => ?_)
                  · skip
                    have htk : tkIs bs 2 he sp (clN n) = sa := by rw [hsa]; unfold tkIs; by_cases z : sp - he = tL (clN n); (rw [decide_eq_true z, show kk = tL (clN n) by omega]; rfl); (rw [decide_eq_false z, Bool.and_false]; rfl)
                    refine w_iload_n (n := 107) O dX7_nameHere_106 rfl rfl rfl ?_
                    refine w_if_eqB (n := 110) (tgt := 112) O dX7_nameHere_107 (by decide) rfl (fun c_13 => ?_) (fun c_13 => ?_)
                    · skip
                      refine w_iincN (n := 115) (lv' := [(1, .int (nI (n + 1))), (0, .ref (gb_ad G 49)), (2, .int (bI (sa))), (3, .int (nI (kk)))]) O dX7_nameHere_112 rfl (by decide) rfl rfl ?_
                      refine w_goto (tgt := 2) O dX7_nameHere_115 (by decide) ?_
                      refine w_lv (lv2 := [(0, .ref (gb_ad G 49)), (1, .int (nI (n + 1)))]) [1, 0] rfl ?_
                      exact ih_NO _ (by omega) (n + 1) rfl (by omega) (fun c hc => by rcases Nat.lt_or_ge c n with z | z; exact hno c z; rw [show c = n by omega, htk]; exact c_13)
                    · skip
                      refine w_iload_n (n := 111) O dX7_nameHere_110 rfl rfl rfl ?_
                      refine w_iret O dX7_nameHere_111 ?_
                      have e : nmI bs tk he sp = nI n := by unfold nmI; rw [if_pos c_2, nmO_some (by omega) (htk.trans c_13)]; rfl
                      rw [e] at hQ
                      exact hQ
                  · skip
                    have hsat : sp - he = tL (clN n) := by have z := hsa; rw [c_10] at z; exact of_decide_eq_true (Bool.and_eq_true_iff.mp z.symm).1
                    obtain ⟨hle1, hle2⟩ := let_ok n (by omega) kk (by omega) (by omega)
                    have hbk := hbs (he + kk) (by omega)
                    refine w_aload_n (n := 69) O dX7_nameHere_68 rfl rfl rfl ?_
                    refine w_aload_n (n := 70) O dX7_nameHere_69 rfl rfl rfl ?_
                    refine w_getf (n := 73) O 14 dX7_nameHere_70 (by omega) hR.1 rfl (by decide) uX7 uf_X7_60 rfl rfl ?_
                    refine w_iload_n (n := 74) O dX7_nameHere_73 rfl rfl rfl ?_
                    refine w_iaddN (n := 75) O dX7_nameHere_74 rfl ?_
                    refine w_cV (n := 78) (ro := some (.int (byI bs ln (he + kk)))) (R := fun mM' => mM = mM') (st := []) (st1 := [.int (byI bs ln (he + kk))]) (As := [.int (nI ((he + kk)))]) (b := 49) O dX7_nameHere_75 ul_X7_72 um_X7_byteAt (f_X7_byteAt hW ⟨hR.1, hR.2.1, hR.2.2.1, hR.2.2.2.1, hR.2.2.2.2⟩ hln hbs (by omega) ⟨rfl, rfl⟩) rfl (by omega) hR.1 rfl rfl rfl rfl (by decide) (Nat.le_of_ble_eq_true rfl) rfl (fun mhM_14 hM_14 => ?_)
                    subst hM_14
                    refine w_top (nI (bs (he + kk))) (byI_at (by omega)) ?_
                    refine w_aload_n (n := 79) O dX7_nameHere_78 rfl rfl rfl ?_
                    refine w_getf (n := 82) O 18 dX7_nameHere_79 (by omega) hR.1 rfl (by decide) uX7 uf_X7_22 rfl rfl ?_
                    refine w_aload_n (n := 83) O dX7_nameHere_82 rfl rfl rfl ?_
                    refine w_getf (n := 86) O 17 dX7_nameHere_83 (by omega) hR.1 rfl (by decide) uX7 uf_X7_19 rfl rfl ?_
                    refine w_iload_n (n := 87) O dX7_nameHere_86 rfl rfl rfl ?_
                    refine w_ialdN (n := 88) O dX7_nameHere_87 hW.2.1 (by omega) hR.2.2.2.1 (by omega) (by decide) rfl ?_
                    refine w_iload_n (n := 89) O dX7_nameHere_88 rfl rfl rfl ?_
                    refine w_iaddN (n := 90) O dX7_nameHere_89 rfl ?_
                    refine w_ialdN (n := 91) O dX7_nameHere_90 hW.2.1 (by omega) hR.2.2.2.2 (by omega) (by decide) rfl ?_
                    refine w_icmp_neN (n := 94) (tgt := 98) O dX7_nameHere_91 (by omega) (by omega) (by decide) rfl (fun c_15 => ?_) (fun c_15 => ?_)
                    · skip
                      refine w_iconst (n := 99) O dX7_nameHere_98 (v := (nI 0)) (by decide) rfl ?_
                      refine w_istore_n (n := 100) (lv' := [(2, .int (nI 0)), (0, .ref (gb_ad G 49)), (1, .int (nI (n))), (3, .int (nI (kk)))]) O dX7_nameHere_99 rfl (by decide) rfl rfl ?_
                      refine w_iincN (n := 103) (lv' := [(3, .int (nI (kk + 1))), (2, .int (nI 0)), (0, .ref (gb_ad G 49)), (1, .int (nI (n)))]) O dX7_nameHere_100 rfl (by decide) rfl rfl ?_
                      refine w_goto (tgt := 51) O dX7_nameHere_103 (by decide) ?_
                      refine w_lv (lv2 := [(0, .ref (gb_ad G 49)), (1, .int (nI (n))), (2, .int (nI 0)), (3, .int (nI (kk + 1)))]) [2, 3, 1, 0] rfl ?_
                      exact ih_NI _ (by omega) (kk + 1) false rfl (by omega) (by rw [nmB, ← Bool.and_assoc, ← hsa, c_10, decide_eq_false (show ¬ bs (he + kk) = tC (clN n) kk by omega)]; rfl)
                    · skip
                      refine w_iconst (n := 95) O dX7_nameHere_94 (v := (nI 1)) (by decide) rfl ?_
                      refine w_goto (tgt := 99) O dX7_nameHere_95 (by decide) ?_
                      refine w_istore_n (n := 100) (lv' := [(2, .int (nI 1)), (0, .ref (gb_ad G 49)), (1, .int (nI (n))), (3, .int (nI (kk)))]) O dX7_nameHere_99 rfl (by decide) rfl rfl ?_
                      refine w_iincN (n := 103) (lv' := [(3, .int (nI (kk + 1))), (2, .int (nI 1)), (0, .ref (gb_ad G 49)), (1, .int (nI (n)))]) O dX7_nameHere_100 rfl (by decide) rfl rfl ?_
                      refine w_goto (tgt := 51) O dX7_nameHere_103 (by decide) ?_
                      refine w_lv (lv2 := [(0, .ref (gb_ad G 49)), (1, .int (nI (n))), (2, .int (nI 1)), (3, .int (nI (kk + 1)))]) [2, 3, 1, 0] rfl ?_
                      exact ih_NI _ (by omega) (kk + 1) true rfl (by omega) (by rw [nmB, ← Bool.and_assoc, ← hsa, c_10, decide_eq_true (show bs (he + kk) = tC (clN n) kk by omega)]; rfl)
            refine w_lv (lv2 := [(0, .ref (gb_ad G 49)), (1, .int (nI (n))), (2, .int (nI 1)), (3, .int (nI 0))]) [2, 3, 1, 0] rfl ?_
            exact NI _ 0 true rfl (by omega) (by rw [decide_eq_true (show sp - he = tL (clN n) by omega)]; rfl)
  refine w_lv (lv2 := [(0, .ref (gb_ad G 49)), (1, .int (nI 0))]) [1, 0] rfl ?_
  exact NO _ 0 rfl (by omega) (fun c hc => absurd hc (Nat.not_lt_zero c))
