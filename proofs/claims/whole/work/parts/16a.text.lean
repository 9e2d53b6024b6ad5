/-! THE TEXTS OF THE PROGRAM: addresses 63 + i, their bytes at 75 + i, and the JDK's length and charAt at them -/
def tL (i : Nat) : Nat := gb_len.getD i 0
def tC (i j : Nat) : Nat := ((gb_byt.getD i []).getD j 0).toNatClampNeg
theorem tC_ok : ∀ i, i < 12 → ∀ j, j < tL i → (((gb_byt.getD i []).getD j 0 &&& 255).toUInt32 % 65536).toInt32 = nI (tC i j) := by decide +kernel
theorem tC_lt : ∀ i, i < 12 → ∀ j, j < tL i → tC i j < 128 := by decide +kernel
theorem tC_nar : ∀ i, i < 12 → ∀ j, j < tL i → narrow .char (.int (nI (tC i j))) = .int (nI (tC i j)) := by decide +kernel
theorem tL_lt : ∀ i, i < 12 → tL i ≤ 6 := by decide +kernel
theorem tL_sh : ∀ i, i < 12 → nI (tL i) >>> ((0 : Int32) &&& 31) = nI (tL i) := by decide +kernel
theorem um_bt : narrow .byte (.int 0) = .int 0 := by decide +kernel
section GBT
variable {G : gb_G} {X : gb_X} {cc : ByteArray} {nL : Nat} {ret : Option FieldType} {own : String} {d : Nat} {Q : Option Value → gb_M → Prop} {pc n : Nat} {lv lv' : List (Nat × Value)} {st : List Value} {M : gb_M}
theorem w_ldcT (O : gb_Ok G X cc nL ret own d) {tx : String} {a index : Nat} (hd : decode cc pc = .ok (.ldc index, 2)) (hZ : vk_R own index tx a X.2.2.2.1) (hn : pc + 2 = n) (k : Wm G X nL Q n lv (.ref a :: st) M) : Wm G X nL Q pc lv st M := by
  subst hn; exact fun H locs ls hP hS hl => va_ldcS O.1 O.2.1 O.2.2.2.1 hZ hd (k H locs ls hP hS hl)
theorem w_tgetC (O : gb_Ok G X cc nL ret own d) (hW : gW G) {i index : Nat} (hi : i < 12) (hd : decode cc pc = .ok (.getfield index, 3)) (hlk : Cond.fieldLink own index "java/lang/String" "coder" "B" ∈ gU) (hn : pc + 3 = n) (k : Wm G X nL Q n lv (.int 0 :: st) M) : Wm G X nL Q pc lv (.ref (gb_ad G (63 + i)) :: st) M := by
  subst hn; exact fun H locs ls hP hS hl => vk_getf O.1 O.2.1 ((gz_STR hW O).1 i hi).2.1 hS O.2.2.2.1 (O.2.2.2.2.1 _ hlk) (fun _ h => h) hd (k H locs ls hP hS hl)
theorem w_tgetV (O : gb_Ok G X cc nL ret own d) (hW : gW G) {i index : Nat} (hi : i < 12) (hd : decode cc pc = .ok (.getfield index, 3)) (hlk : Cond.fieldLink own index "java/lang/String" "value" "[B" ∈ gU) (hn : pc + 3 = n) (k : Wm G X nL Q n lv (.ref (gb_ad G (75 + i)) :: st) M) : Wm G X nL Q pc lv (.ref (gb_ad G (63 + i)) :: st) M := by
  subst hn; exact fun H locs ls hP hS hl => vk_getf O.1 O.2.1 ((gz_STR hW O).1 i hi).2.2.1 hS O.2.2.2.1 (O.2.2.2.2.1 _ hlk) (fun _ h => h) hd (k H locs ls hP hS hl)
theorem w_tlen (O : gb_Ok G X cc nL ret own d) (hW : gW G) {i : Nat} (hi : i < 12) (hd : decode cc pc = .ok (.arraylength, 1)) (hn : pc + 1 = n) (k : Wm G X nL Q n lv (.int (nI (tL i)) :: st) M) : Wm G X nL Q pc lv (.ref (gb_ad G (75 + i)) :: st) M := by
  subst hn; exact fun H locs ls hP hS hl => va_tlen O.1 O.2.1 ((gz_STR hW O).1 i hi).2.2.2 hS rfl hd (k H locs ls hP hS hl)
theorem w_tbld (O : gb_Ok G X cc nL ret own d) (hW : gW G) {i j : Nat} (hi : i < 12) (hj : j < tL i) (hd : decode cc pc = .ok (.baload, 1)) (hn : pc + 1 = n) (k : Wm G X nL Q n lv (.int ((gb_byt.getD i []).getD j 0) :: st) M) : Wm G X nL Q pc lv (.int (nI j) :: .ref (gb_ad G (75 + i)) :: st) M := by
  have h6 := tL_lt i hi
  have h7 : gb_len.getD i 0 ≤ 6 := h6
  subst hn; exact fun H locs ls hP hS hl => va_tb O.1 O.2.1 ((gz_STR hW O).1 i hi).2.2.2 hS (vp_in_nI hj (by omega)) (by rw [nI_clamp (by omega)]) hd (k H locs ls hP hS hl)
theorem w_getsq (O : gb_Ok G X cc nL ret own d) {C nm ds : String} {index : Nat} (hd : decode cc pc = .ok (.getstatic index, 3)) (hZ : va_Zq C nm ds (gb_A (gb_ad G) (gb_N G) X.2.2.2.1.heap.size) X.2.2.2.1 X.2.2.2.1.heap) (hlk : Cond.fieldLink own index C nm ds ∈ gU) (hn : pc + 3 = n) (k : ∀ v : Value, (v = .null ∨ ∃ t : Nat, v = .ref t) → Wm G X nL Q n lv (v :: st) M) : Wm G X nL Q pc lv st M := by
  rcases hZ with h | ⟨t, h⟩
  · exact w_gets O hd h hlk hn (k _ (Or.inl rfl))
  · exact w_gets O hd h hlk hn (k _ (Or.inr ⟨t, rfl⟩))
theorem w_cT (O : gb_Ok G X cc nL ret own d) (hW : gW G) {i : Nat} (hi : i < 12) {y : MethodName} {bytes : ByteArray} {maxL d' idx np : Nat} {rt : Option FieldType} {As : List Value} {st0 st1 : List Value} {ro : Option Value} {R : gb_M → Prop} (hd : decode cc pc = .ok (.invokevirtual idx, 3)) (hlk : Cond.methodLink own idx y ∈ gU) (hy : gb_CV y bytes maxL rt np) (F : Fn G d' y bytes maxL rt (.ref (gb_ad G (63 + i)) :: As) M (fun v M' => v = ro ∧ R M')) (hnp : As.length = np) (hC : y.cls = "java/lang/String") (hst : st0 = As.reverse ++ .ref (gb_ad G (63 + i)) :: st) (hs1 : ro.toList ++ st = st1) (hdd : d' + 1 ≤ d) (hcat : (st.map fun v => v.category).sum ≤ 8) (hn : pc + 3 = n) (k : ∀ M' : gb_M, R M' → Wm G X nL Q n lv st1 M') : Wm G X nL Q pc lv st0 M := by
  subst hn; subst hnp
  intro H locs ls hP hS hl
  have hv := vk_recv (i := i) (gz_STR hW O) hi hS
  have hT : GoodIn gU (wsV own idx y.cls y (Cond.code y bytes maxL rt :: gU)) := gU_goodIn (fun w hw => by
    rcases List.mem_append.mp hw with h | h
    · simp only [List.mem_cons, List.not_mem_nil, or_false] at h
      rcases h with rfl | rfl | rfl | rfl
      · exact hlk
      · exact hy.1
      · exact hy.2.1
      · exact hy.2.2.1
    · rcases List.mem_cons.mp h with rfl | h
      · exact hy.2.2.2.1
      · exact h)
  exact gb_call (va_runV (As := As) (rest := st) ⟨O.1, O.2.1, O.2.2.1, O.2.2.2.1, O.2.2.2.2.1⟩ (F H.size) (cwV As.length O.2.2.2.2.1 hT rfl rfl rfl ⟨rfl, hy.2.2.2.2.1⟩ ⟨Nat.le_trans hdd O.2.2.2.2.2.2.2.2.2.2.1, by have h1 := O.2.2.2.2.2.2.2.2.2.2.2; have h2 : (gb_rm d').locals = 100 * d' := rfl; have h3 := hy.2.2.2.2.2; omega⟩)
    ⟨gb_blind O.2.2.2.2.2.2.2.2.2.1, (by rw [hC]; exact hv), gb_pre O hP hS⟩ rfl rfl hl.1 hst (lv_room hcat) hd ⟨Nat.zero_le _, Nat.zero_le _⟩) hS hl (fun v M' h => by obtain ⟨rfl, h2⟩ := h; rw [hs1]; exact k M' h2)
end GBT
theorem f_J0_coder {G : gb_G} (hW : gW G) {Q : Option Value → gb_M → Prop} {mM : gb_M} {i : Nat} (hi : i < 12) (hQ : Q (some (.int 0)) mM) : Fn G 0 yJ0_coder_7d493 cJ0_coder_7d493 1 (some .byte) [.ref (gb_ad G (63 + i))] mM Q := by
  refine Fn.of hW.1 [(0, .ref (gb_ad G (63 + i)))] (by decide) (Nat.le_of_ble_eq_true rfl) rfl ?_
  intro X O
  refine w_gets (n := 3) O dJ0_coder_7d493_0 (gz_CMP hW O) uf_J0_38 rfl ?_
  refine w_if_eq (n := 6) (tgt := 13) O dJ0_coder_7d493_3 (by decide) rfl (fun c => absurd c (by decide)) (fun _ => ?_)
  refine w_aload_n (n := 7) O dJ0_coder_7d493_6 rfl rfl rfl ?_
  refine w_tgetC (n := 10) O hW hi dJ0_coder_7d493_7 uf_J0_15 rfl ?_
  refine w_goto (tgt := 14) O dJ0_coder_7d493_10 (by decide) ?_
  exact w_zret O dJ0_coder_7d493_14 um_bt hQ
theorem f_J0_isLatin1 {G : gb_G} (hW : gW G) {Q : Option Value → gb_M → Prop} {mM : gb_M} {i : Nat} (hi : i < 12) (hQ : Q (some (.int (bI true))) mM) : Fn G 0 yJ0_isLatin1_aae02 cJ0_isLatin1_aae02 1 (some .boolean) [.ref (gb_ad G (63 + i))] mM Q := by
  refine Fn.of hW.1 [(0, .ref (gb_ad G (63 + i)))] (by decide) (Nat.le_of_ble_eq_true rfl) rfl ?_
  intro X O
  refine w_gets (n := 3) O dJ0_isLatin1_aae02_0 (gz_CMP hW O) uf_J0_38 rfl ?_
  refine w_if_eq (n := 6) (tgt := 17) O dJ0_isLatin1_aae02_3 (by decide) rfl (fun c => absurd c (by decide)) (fun _ => ?_)
  refine w_aload_n (n := 7) O dJ0_isLatin1_aae02_6 rfl rfl rfl ?_
  refine w_tgetC (n := 10) O hW hi dJ0_isLatin1_aae02_7 uf_J0_15 rfl ?_
  refine w_if_ne (n := 13) (tgt := 17) O dJ0_isLatin1_aae02_10 (by decide) rfl (fun c => absurd rfl c) (fun _ => ?_)
  refine w_iconst (n := 14) O dJ0_isLatin1_aae02_13 (v := (nI 1)) (by decide) rfl ?_
  refine w_goto (tgt := 18) O dJ0_isLatin1_aae02_14 (by decide) ?_
  exact w_zret O dJ0_isLatin1_aae02_18 (by decide) hQ
theorem f_J0_length {G : gb_G} (hW : gW G) {Q : Option Value → gb_M → Prop} {mM : gb_M} {i : Nat} (hi : i < 12) (hQ : Q (some (.int (nI (tL i)))) mM) : Fn G 1 yJ0_length_8abf5 cJ0_length_8abf5 1 (some .int) [.ref (gb_ad G (63 + i))] mM Q := by
  refine Fn.of hW.1 [(0, .ref (gb_ad G (63 + i)))] (by decide) (Nat.le_of_ble_eq_true rfl) rfl ?_
  intro X O
  refine w_aload_n (n := 1) O dJ0_length_8abf5_0 rfl rfl rfl ?_
  refine w_tgetV (n := 4) O hW hi dJ0_length_8abf5_1 uf_J0_9 rfl ?_
  refine w_tlen (n := 5) O hW hi dJ0_length_8abf5_4 rfl ?_
  refine w_aload_n (n := 6) O dJ0_length_8abf5_5 rfl rfl rfl ?_
  refine w_cT (n := 9) (ro := some (.int 0)) (R := fun mM' => mM = mM') (st := [.int (nI (tL i))]) (st1 := [.int 0, .int (nI (tL i))]) (As := []) O hW hi dJ0_length_8abf5_6 ul_J0_335 um_J0_coder_7d493 (f_J0_coder hW hi ⟨rfl, rfl⟩) rfl rfl rfl rfl (by decide) (Nat.le_of_ble_eq_true rfl) rfl (fun m1 h1 => ?_)
  subst h1
  refine w_ishr (n := 10) O dJ0_length_8abf5_9 rfl ?_
  refine w_top (nI (tL i)) (tL_sh i hi) ?_
  exact w_iret O dJ0_length_8abf5_10 hQ
theorem f_J3_checkIndex {G : gb_G} (hW : gW G) {Q : Option Value → gb_M → Prop} {mM : gb_M} {j z : Nat} {v : Value} (hv : v = .null ∨ ∃ t : Nat, v = .ref t) (hj : j < z) (hz : z < 2 ^ 31) (hQ : Q (some (.int (nI j))) mM) : Fn G 0 yJ3_checkIndex_8e157 cJ3_checkIndex_8e157 3 (some .int) [.int (nI j), .int (nI z), v] mM Q := by
  rcases hv with rfl | ⟨t, rfl⟩
  · refine Fn.of hW.1 [(0, .int (nI j)), (1, .int (nI z)), (2, .null)] (by decide) (Nat.le_of_ble_eq_true rfl) rfl ?_
    intro X O
    refine w_iload_n (n := 1) O dJ3_checkIndex_8e157_0 rfl rfl rfl ?_
    refine w_if_ltN (n := 4) (tgt := 9) O dJ3_checkIndex_8e157_1 (by omega) (by decide) rfl ?_
    refine w_iload_n (n := 5) O dJ3_checkIndex_8e157_4 rfl rfl rfl ?_
    refine w_iload_n (n := 6) O dJ3_checkIndex_8e157_5 rfl rfl rfl ?_
    refine w_icmp_ltN (n := 9) (tgt := 16) O dJ3_checkIndex_8e157_6 (by omega) (by omega) (by decide) rfl (fun _ => ?_) (fun c => absurd c (by omega))
    refine w_iload_n (n := 17) O dJ3_checkIndex_8e157_16 rfl rfl rfl ?_
    exact w_iret O dJ3_checkIndex_8e157_17 hQ
  · refine Fn.of hW.1 [(0, .int (nI j)), (1, .int (nI z)), (2, .ref t)] (by decide) (Nat.le_of_ble_eq_true rfl) rfl ?_
    intro X O
    refine w_iload_n (n := 1) O dJ3_checkIndex_8e157_0 rfl rfl rfl ?_
    refine w_if_ltN (n := 4) (tgt := 9) O dJ3_checkIndex_8e157_1 (by omega) (by decide) rfl ?_
    refine w_iload_n (n := 5) O dJ3_checkIndex_8e157_4 rfl rfl rfl ?_
    refine w_iload_n (n := 6) O dJ3_checkIndex_8e157_5 rfl rfl rfl ?_
    refine w_icmp_ltN (n := 9) (tgt := 16) O dJ3_checkIndex_8e157_6 (by omega) (by omega) (by decide) rfl (fun _ => ?_) (fun c => absurd c (by omega))
    refine w_iload_n (n := 17) O dJ3_checkIndex_8e157_16 rfl rfl rfl ?_
    exact w_iret O dJ3_checkIndex_8e157_17 hQ
theorem f_J0_checkIndex {G : gb_G} (hW : gW G) {Q : Option Value → gb_M → Prop} {mM : gb_M} {j z : Nat} (hj : j < z) (hz : z < 2 ^ 31) (hQ : Q none mM) : Fn G 1 yJ0_checkIndex_df160 cJ0_checkIndex_df160 2 none [.int (nI j), .int (nI z)] mM Q := by
  refine Fn.of hW.1 [(0, .int (nI j)), (1, .int (nI z))] (by decide) (Nat.le_of_ble_eq_true rfl) rfl ?_
  intro X O
  refine w_iload_n (n := 1) O dJ0_checkIndex_df160_0 rfl rfl rfl ?_
  refine w_iload_n (n := 2) O dJ0_checkIndex_df160_1 rfl rfl rfl ?_
  refine w_getsq (n := 5) O dJ0_checkIndex_df160_2 (gz_SIO hW O) uf_J0_1053 rfl (fun v hv => ?_)
  refine w_cS (n := 8) (ro := some (.int (nI j))) (R := fun mM' => mM = mM') (st := []) (st1 := [.int (nI j)]) (As := [.int (nI j), .int (nI z), v]) O dJ0_checkIndex_df160_5 ul_J0_1059 um_J3_checkIndex_8e157 (f_J3_checkIndex hW hv hj hz ⟨rfl, rfl⟩) rfl rfl rfl (by decide) (Nat.le_of_ble_eq_true rfl) rfl (fun m1 h1 => ?_)
  subst h1
  refine w_pop (n := 9) O dJ0_checkIndex_df160_8 rfl rfl ?_
  exact w_vret O dJ0_checkIndex_df160_9 hQ
theorem f_J1_charAt {G : gb_G} (hW : gW G) {Q : Option Value → gb_M → Prop} {mM : gb_M} {i j : Nat} (hi : i < 12) (hj : j < tL i) (hQ : Q (some (.int (nI (tC i j)))) mM) : Fn G 2 yJ1_charAt_3b067 cJ1_charAt_3b067 2 (some .char) [.ref (gb_ad G (75 + i)), .int (nI j)] mM Q := by
  have h6 := tL_lt i hi
  refine Fn.of hW.1 [(0, .ref (gb_ad G (75 + i))), (1, .int (nI j))] (by decide) (Nat.le_of_ble_eq_true rfl) rfl ?_
  intro X O
  refine w_iload_n (n := 1) O dJ1_charAt_3b067_0 rfl rfl rfl ?_
  refine w_aload_n (n := 2) O dJ1_charAt_3b067_1 rfl rfl rfl ?_
  refine w_tlen (n := 3) O hW hi dJ1_charAt_3b067_2 rfl ?_
  refine w_cS (n := 6) (ro := none) (R := fun mM' => mM = mM') (st := []) (st1 := []) (As := [.int (nI j), .int (nI (tL i))]) O dJ1_charAt_3b067_3 ul_J1_9 um_J0_checkIndex_df160 (f_J0_checkIndex hW hj (by omega) ⟨rfl, rfl⟩) rfl rfl rfl (by decide) (Nat.le_of_ble_eq_true rfl) rfl (fun m1 h1 => ?_)
  subst h1
  refine w_aload_n (n := 7) O dJ1_charAt_3b067_6 rfl rfl rfl ?_
  refine w_iload_n (n := 8) O dJ1_charAt_3b067_7 rfl rfl rfl ?_
  refine w_tbld (n := 9) O hW hi hj dJ1_charAt_3b067_8 rfl ?_
  refine w_sipush (n := 12) (v := 255) O dJ1_charAt_3b067_9 (by decide) rfl ?_
  refine w_iand (n := 13) O dJ1_charAt_3b067_12 rfl ?_
  refine w_i2c (n := 14) O dJ1_charAt_3b067_13 rfl ?_
  refine w_top (nI (tC i j)) (tC_ok i hi j hj) ?_
  exact w_zret O dJ1_charAt_3b067_14 (tC_nar i hi j hj) hQ
theorem f_J0_charAt {G : gb_G} (hW : gW G) {Q : Option Value → gb_M → Prop} {mM : gb_M} {i j : Nat} (hi : i < 12) (hj : j < tL i) (hQ : Q (some (.int (nI (tC i j)))) mM) : Fn G 3 yJ0_charAt_5068e cJ0_charAt_5068e 2 (some .char) [.ref (gb_ad G (63 + i)), .int (nI j)] mM Q := by
  refine Fn.of hW.1 [(0, .ref (gb_ad G (63 + i))), (1, .int (nI j))] (by decide) (Nat.le_of_ble_eq_true rfl) rfl ?_
  intro X O
  refine w_aload_n (n := 1) O dJ0_charAt_5068e_0 rfl rfl rfl ?_
  refine w_cT (n := 4) (ro := some (.int (bI true))) (R := fun mM' => mM = mM') (st := []) (st1 := [.int (bI true)]) (As := []) O hW hi dJ0_charAt_5068e_1 ul_J0_492 um_J0_isLatin1_aae02 (f_J0_isLatin1 hW hi ⟨rfl, rfl⟩) rfl rfl rfl rfl (by decide) (Nat.le_of_ble_eq_true rfl) rfl (fun m1 h1 => ?_)
  subst h1
  refine w_if_eqB (n := 7) (tgt := 16) O dJ0_charAt_5068e_4 (by decide) rfl (fun c => absurd c (by decide)) (fun _ => ?_)
  refine w_aload_n (n := 8) O dJ0_charAt_5068e_7 rfl rfl rfl ?_
  refine w_tgetV (n := 11) O hW hi dJ0_charAt_5068e_8 uf_J0_9 rfl ?_
  refine w_iload_n (n := 12) O dJ0_charAt_5068e_11 rfl rfl rfl ?_
  refine w_cS (n := 15) (ro := some (.int (nI (tC i j)))) (R := fun mM' => mM = mM') (st := []) (st1 := [.int (nI (tC i j))]) (As := [.ref (gb_ad G (75 + i)), .int (nI j)]) O dJ0_charAt_5068e_12 ul_J0_495 um_J1_charAt_3b067 (f_J1_charAt hW hi hj ⟨rfl, rfl⟩) rfl rfl rfl (by decide) (Nat.le_of_ble_eq_true rfl) rfl (fun m1 h1 => ?_)
  subst h1
  exact w_zret O dJ0_charAt_5068e_15 (tC_nar i hi j hj) hQ
