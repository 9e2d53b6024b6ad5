/-! THE LIST LAYER: a world that grows (constructors, the law) -/
def gC (G : gb_G) (X : gb_X) (A : Nat → Prop) (cc : ByteArray) (nL : Nat) (own : String) (d : Nat) : Prop :=
  X.1.tables.exec = Jvm.exec ∧ X.2.2.2.2.2.2.2.2.code = cc ∧ X.2.2.2.2.2.2.2.2.maxLocals = nL ∧ X.2.2.2.1.vm.findClass own = some X.2.2.2.2.1.cls ∧ (∀ w ∈ gU, w.before X.2.2.2.2.2.1 X.2.2.2.1 = true) ∧ va_K G.2.1 vwCl G.2.2.1 X.2.2.2.1 ∧ (∀ q : Nat, X.2.2.2.1.heap.size ≤ q → A q) ∧ d ≤ X.2.2.1.frames ∧ 100 * d ≤ X.2.2.1.locals ∧ gb_ty G
def Wl (G : gb_G) (X : gb_X) (A : Nat → Prop) (nL : Nat) (Q : State → Prop) (pc : Nat) (lv : List (Nat × Value)) (st : List Value) (ws : va_W) (kc ks : Nat) : Prop :=
  ∀ (H : Heap) (locs : List Loc) (ls : Array Slot), va_P G.2.1 vwCl ws H → va_D A ws → va_S A X.2.2.2.1.heap H locs → lv_has ls nL lv →
    W X.1 G.1 X.2.1 X.2.2.1 X.2.2.2.1 X.2.2.2.2.1 X.2.2.2.2.2.1 X.2.2.2.2.2.2.1 X.2.2.2.2.2.2.2.1 X.2.2.2.2.2.2.2.2 H locs kc ks Q (F0 X.2.2.2.2.1 pc ls st)
section GBLL
variable {G : gb_G} {X : gb_X} {A : Nat → Prop} {cc : ByteArray} {nL : Nat} {own : String} {d : Nat} {Q : State → Prop} {pc n : Nat} {lv lv' : List (Nat × Value)} {st : List Value} {ws ws' : va_W} {kc ks : Nat}
theorem l_iconst (O : gC G X A cc nL own d) {z : Int} {v : Int32} (hd : decode cc pc = .ok (.iconst z, 1)) (hv : Int32.ofInt z = v) (hn : pc + 1 = n) (k : Wl G X A nL Q n lv (.int v :: st) ws kc ks) : Wl G X A nL Q pc lv st ws kc ks := by
  subst hn; exact fun H locs ls hP hD hS hl => lv_iconst O.1 O.2.1 hd hv (k H locs ls hP hD hS hl)
theorem l_bipush (O : gC G X A cc nL own d) {z : Int} {v : Int32} (hd : decode cc pc = .ok (.bipush z, 2)) (hv : (Int8.ofInt z).toInt32 = v) (hn : pc + 2 = n) (k : Wl G X A nL Q n lv (.int v :: st) ws kc ks) : Wl G X A nL Q pc lv st ws kc ks := by
  subst hn; exact fun H locs ls hP hD hS hl => lv_bipush O.1 O.2.1 hd hv (k H locs ls hP hD hS hl)
theorem l_sipush (O : gC G X A cc nL own d) {z : Int} {v : Int32} (hd : decode cc pc = .ok (.sipush z, 3)) (hv : (Int16.ofInt z).toInt32 = v) (hn : pc + 3 = n) (k : Wl G X A nL Q n lv (.int v :: st) ws kc ks) : Wl G X A nL Q pc lv st ws kc ks := by
  subst hn; exact fun H locs ls hP hD hS hl => lv_sipush O.1 O.2.1 hd hv (k H locs ls hP hD hS hl)
theorem l_iload_n (O : gC G X A cc nL own d) {j : Fin 4} {i : Nat} {x : Int32} (hd : decode cc pc = .ok (.iload_n j, 1)) (hi : (j : Nat) = i) (hv : lvg lv i = some (.int x)) (hn : pc + 1 = n) (k : Wl G X A nL Q n lv (.int x :: st) ws kc ks) : Wl G X A nL Q pc lv st ws kc ks := by
  subst hn; exact fun H locs ls hP hD hS hl => lv_iload_n O.1 O.2.1 hd hi (lvg_at hl hv) (k H locs ls hP hD hS hl)
theorem l_aload_n (O : gC G X A cc nL own d) {j : Fin 4} {i : Nat} {x : Nat} (hd : decode cc pc = .ok (.aload_n j, 1)) (hi : (j : Nat) = i) (hv : lvg lv i = some (.ref x)) (hn : pc + 1 = n) (k : Wl G X A nL Q n lv (.ref x :: st) ws kc ks) : Wl G X A nL Q pc lv st ws kc ks := by
  subst hn; exact fun H locs ls hP hD hS hl => lv_aload_n O.1 O.2.1 hd hi (lvg_at hl hv) (k H locs ls hP hD hS hl)
theorem l_dup (O : gC G X A cc nL own d) {va : Value} (hd : decode cc pc = .ok (.dup, 1)) (h1 : va.category = 1) (hn : pc + 1 = n) (k : Wl G X A nL Q n lv (va :: va :: st) ws kc ks) : Wl G X A nL Q pc lv (va :: st) ws kc ks := by
  subst hn; exact fun H locs ls hP hD hS hl => lv_dup O.1 O.2.1 hd h1 (k H locs ls hP hD hS hl)
theorem l_iadd (O : gC G X A cc nL own d) {x y : Int32} (hd : decode cc pc = .ok (.iadd, 1))  (hn : pc + 1 = n) (k : Wl G X A nL Q n lv (.int (x + y) :: st) ws kc ks) : Wl G X A nL Q pc lv (.int y :: .int x :: st) ws kc ks := by
  subst hn; exact fun H locs ls hP hD hS hl => lv_iadd O.1 O.2.1 hd  (k H locs ls hP hD hS hl)
theorem l_isub (O : gC G X A cc nL own d) {x y : Int32} (hd : decode cc pc = .ok (.isub, 1))  (hn : pc + 1 = n) (k : Wl G X A nL Q n lv (.int (x - y) :: st) ws kc ks) : Wl G X A nL Q pc lv (.int y :: .int x :: st) ws kc ks := by
  subst hn; exact fun H locs ls hP hD hS hl => lv_isub O.1 O.2.1 hd  (k H locs ls hP hD hS hl)
theorem l_iand (O : gC G X A cc nL own d) {x y : Int32} (hd : decode cc pc = .ok (.iand, 1))  (hn : pc + 1 = n) (k : Wl G X A nL Q n lv (.int (x &&& y) :: st) ws kc ks) : Wl G X A nL Q pc lv (.int y :: .int x :: st) ws kc ks := by
  subst hn; exact fun H locs ls hP hD hS hl => lv_iand O.1 O.2.1 hd  (k H locs ls hP hD hS hl)
theorem l_lcmp (O : gC G X A cc nL own d) {x y : Int64} (hd : decode cc pc = .ok (.lcmp, 1))  (hn : pc + 1 = n) (k : Wl G X A nL Q n lv (.int (lg_cmp x y) :: st) ws kc ks) : Wl G X A nL Q pc lv (.long y :: .long x :: st) ws kc ks := by
  subst hn; exact fun H locs ls hP hD hS hl => W.lcmp O.1 O.2.1 hd  (k H locs ls hP hD hS hl)
theorem l_istore_n (O : gC G X A cc nL own d) {j : Fin 4} {i : Nat} {x : Int32} (hd : decode cc pc = .ok (.istore_n j, 1)) (hi : (j : Nat) = i) (hL : i < nL) (hv : lvs1 lv i (.int x) = lv') (hn : pc + 1 = n) (k : Wl G X A nL Q n lv' st ws kc ks) : Wl G X A nL Q pc lv (.int x :: st) ws kc ks := by
  subst hn; exact fun H locs ls hP hD hS hl => lv_istore_n O.1 O.2.1 hd hi hl hL hv (fun ls' hl' => k H locs ls' hP hD hS hl')
theorem l_astore_n (O : gC G X A cc nL own d) {j : Fin 4} {i : Nat} {x : Nat} (hd : decode cc pc = .ok (.astore_n j, 1)) (hi : (j : Nat) = i) (hL : i < nL) (hv : lvs1 lv i (.ref x) = lv') (hn : pc + 1 = n) (k : Wl G X A nL Q n lv' st ws kc ks) : Wl G X A nL Q pc lv (.ref x :: st) ws kc ks := by
  subst hn; exact fun H locs ls hP hD hS hl => lv_astore_n O.1 O.2.1 hd hi hl hL hv (fun ls' hl' => k H locs ls' hP hD hS hl')
theorem l_goto (O : gC G X A cc nL own d) {off : Int} {tgt : Nat} (hd : decode cc pc = .ok (.goto off, 3)) (ht : (pc : Int) + off = (tgt : Int)) (k : Wl G X A nL Q tgt lv st ws kc ks) : Wl G X A nL Q pc lv st ws kc ks := fun H locs ls hP hD hS hl => lv_goto O.1 O.2.1 hd ht (k H locs ls hP hD hS hl)
theorem l_if_eq (O : gC G X A cc nL own d) {x : Int32} {off : Int} {tgt : Nat} (hd : decode cc pc = .ok (.ifCond .eq off, 3)) (ht : (pc : Int) + off = (tgt : Int)) (hn : pc + 3 = n) (kt : x = 0 → Wl G X A nL Q tgt lv st ws kc ks) (kf : ¬ x = 0 → Wl G X A nL Q n lv st ws kc ks) : Wl G X A nL Q pc lv (.int x :: st) ws kc ks := by
  subst hn; exact fun H locs ls hP hD hS hl => lv_if_eq O.1 O.2.1 hd ht (fun h => kt h H locs ls hP hD hS hl) (fun h => kf h H locs ls hP hD hS hl)
theorem l_icmp_eq (O : gC G X A cc nL own d) {x y : Int32} {off : Int} {tgt : Nat} (hd : decode cc pc = .ok (.if_icmp .eq off, 3)) (ht : (pc : Int) + off = (tgt : Int)) (hn : pc + 3 = n) (kt : x = y → Wl G X A nL Q tgt lv st ws kc ks) (kf : ¬ x = y → Wl G X A nL Q n lv st ws kc ks) : Wl G X A nL Q pc lv (.int y :: .int x :: st) ws kc ks := by
  subst hn; exact fun H locs ls hP hD hS hl => lv_icmp_eq O.1 O.2.1 hd ht (fun h => kt h H locs ls hP hD hS hl) (fun h => kf h H locs ls hP hD hS hl)
theorem l_icmp_gt (O : gC G X A cc nL own d) {x y : Int32} {off : Int} {tgt : Nat} (hd : decode cc pc = .ok (.if_icmp .gt off, 3)) (ht : (pc : Int) + off = (tgt : Int)) (hn : pc + 3 = n) (kt : y < x → Wl G X A nL Q tgt lv st ws kc ks) (kf : ¬ y < x → Wl G X A nL Q n lv st ws kc ks) : Wl G X A nL Q pc lv (.int y :: .int x :: st) ws kc ks := by
  subst hn; exact fun H locs ls hP hD hS hl => lv_icmp_gt O.1 O.2.1 hd ht (fun h => kt h H locs ls hP hD hS hl) (fun h => kf h H locs ls hP hD hS hl)
theorem l_tableIn (O : gC G X A cc nL own d) {dflt lo hi : Int} {offs : Array Int} {len : Nat} {x : Int32} {off : Int} {tgt : Nat} (hd : decode cc pc = .ok (.tableswitch dflt lo hi offs, len)) (h1 : ¬ x.toInt < lo) (h2 : ¬ hi < x.toInt) (ho : offs[(x.toInt - lo).toNat]? = some off) (ht : (pc : Int) + off = (tgt : Int)) (k : Wl G X A nL Q tgt lv st ws kc ks) : Wl G X A nL Q pc lv (.int x :: st) ws kc ks :=
  fun H locs ls hP hD hS hl => lv_tableIn O.1 O.2.1 hd h1 h2 ho ht (k H locs ls hP hD hS hl)
theorem l_tableOut (O : gC G X A cc nL own d) {dflt lo hi : Int} {offs : Array Int} {len : Nat} {x : Int32} {tgt : Nat} (hd : decode cc pc = .ok (.tableswitch dflt lo hi offs, len)) (h : x.toInt < lo ∨ hi < x.toInt) (ht : (pc : Int) + dflt = (tgt : Int)) (k : Wl G X A nL Q tgt lv st ws kc ks) : Wl G X A nL Q pc lv (.int x :: st) ws kc ks :=
  fun H locs ls hP hD hS hl => lv_tableOut O.1 O.2.1 hd h ht (k H locs ls hP hD hS hl)
theorem l_iinc (O : gC G X A cc nL own d) {i : Nat} {z : Int} {x v : Int32} (hd : decode cc pc = .ok (.iinc i z, 3)) (hg : lvg lv i = some (.int x)) (hz : Int32.ofInt z = v) (hL : i < nL) (hv : lvs1 lv i (.int (x + v)) = lv') (hn : pc + 3 = n) (k : Wl G X A nL Q n lv' st ws kc ks) : Wl G X A nL Q pc lv st ws kc ks := by
  subst hn; subst hz
  obtain ⟨j, hj⟩ := lvg_ex hg
  exact fun H locs ls hP hD hS hl => lv_iinc O.1 O.2.1 hd hl hj rfl hL hv (fun ls' hl' => k H locs ls' hP hD hS hl')
-- ROWS BY PROGRAM (wip/mklayer.py)
theorem l_top {x : Int32} (y : Int32) (h : x = y) (k : Wl G X A nL Q pc lv (.int y :: st) ws kc ks) : Wl G X A nL Q pc lv (.int x :: st) ws kc ks := by rw [h]; exact k
theorem l_ws (h : ws = ws') (k : Wl G X A nL Q pc lv st ws' kc ks) : Wl G X A nL Q pc lv st ws kc ks := by rw [h]; exact k
theorem l_wide {k2 n2 : Nat} (h1 : kc ≤ k2) (h2 : ks ≤ n2) (k : Wl G X A nL Q pc lv st ws k2 n2) : Wl G X A nL Q pc lv st ws kc ks := fun H locs ls hP hD hS hl => W.widen h1 h2 (k H locs ls hP hD hS hl)
theorem l_oinit (O : gC G X A cc nL own d) {idx a : Nat} (hd : decode cc pc = .ok (.invokespecial idx, 3)) (h1 : Cond.methodLink own idx Lib.objectInit ∈ gU) (hdd : 1 ≤ d) (hcat : (st.map fun v => v.category).sum ≤ 8) (hn : pc + 3 = n) (k : Wl G X A nL Q n lv st ws kc ks) : Wl G X A nL Q pc lv (.ref a :: st) ws kc ks := by
  subst hn
  intro H locs ls hP hD hS hl
  refine W.objInit O.1 O.2.1 O.2.2.2.1 (O.2.2.2.2.1 _ h1) (O.2.2.2.2.1 _ uz_oi) (O.2.2.2.2.1 _ uz_oc) rfl (by rw [O.2.2.1]; exact hl.1) rfl hd (Nat.le_trans hdd O.2.2.2.2.2.2.2.1) ?_ ?_
  · have h1 := O.2.2.2.2.2.2.2.2.1
    have h2 : 2 * (F0 X.2.2.2.2.1 pc ls (.ref a :: st)).monitorRoom + (st.map fun v => v.category).sum ≤ 8 := lv_room hcat
    omega
  · exact W.eq (g2 := F0 X.2.2.2.2.1 (pc + 3) ls st) rfl (k H locs ls hP hD hS hl)
theorem l_new (O : gC G X A cc nL own d) {C : String} {T : u_T} {N ci index : Nat} (ty : Nat → FieldType) (hd : decode cc pc = .ok (.new index, 3)) (hin : ∀ w ∈ u_ws C T N, w ∈ gU) (hty : ∀ k, k < N → parseFieldDescriptor (T k).2.2.1 = some (ty k)) (hcl : Cond.classLink own index C ∈ gU) (hinst : Cond.instantiable C N ∈ gU) (hini : Cond.initialized C ∈ gU) (hc : vwCl[ci]? = some (C, T, N)) {fs : List Value} (hfs : ∀ j, j < N → defaultValue (ty j) = vp_V fs j) (hcells : kc + 1 ≤ X.2.2.1.cells) (hslots : ks + N ≤ X.2.2.1.slots) (hn : pc + 3 = n) (k : ∀ q : Nat, Wl G X A nL Q n lv (.ref q :: st) (ws ++ [(q, .inr (ci, fs))]) (kc + 1) (ks + N)) : Wl G X A nL Q pc lv st ws kc ks := by
  subst hn; exact fun H locs ls hP hD hS hl => va_new O.1 O.2.1 O.2.2.2.2.1 hin ty hty O.2.2.2.1 (O.2.2.2.2.1 _ hcl) (O.2.2.2.2.1 _ hinst) (O.2.2.2.2.1 _ hini) O.2.2.2.2.2.1 hP hD hS O.2.2.2.2.2.2.1 hc hfs hcells hslots hd (fun q H1 hP1 hD1 hS1 => k q H1 locs ls hP1 hD1 hS1 hl)
theorem gI_one (O : gC G X A cc nL own d) {tys : List (ClassId × FieldType)} {cA : ClassId} {t0 : Nat} {c0 : ClassId} {ty : FieldType} (hty : ∀ C, ty ≠ .object C) (h0 : G.2.2.1[t0]? = some (c0, ty)) (h : va_K G.2.1 vwCl (G.2.2.1 ++ [(cA, ty)]) X.2.2.2.1) : cA = c0 := by
  have h1 := (O.2.2.2.2.2.1.2 t0 _ h0).2
  have h2 := (h.2 G.2.2.1.length (cA, ty) (by simp)).2
  cases ty with
  | object C => exact absurd rfl (hty C)
  | _ => exact Option.some.inj (h2.symm.trans h1)
theorem gQ_one (O : gC G X A cc nL own d) {cA : ClassId} {t0 : Nat} {c0 : ClassId} {C : String} (h0 : G.2.2.1[t0]? = some (c0, .object C)) (h : va_K G.2.1 vwCl (G.2.2.1 ++ [(cA, .object C)]) X.2.2.2.1) : cA = c0 := by
  obtain ⟨k1, c1, -, -, -, h1⟩ := (O.2.2.2.2.2.1.2 t0 _ h0).2
  obtain ⟨k2, c2, -, -, -, h2⟩ := (h.2 G.2.2.1.length (cA, .object C) (by simp)).2
  exact Option.some.inj (h2.symm.trans h1)
theorem l_newi (O : gC G X A cc nL own d) {z : Nat} (hd : decode cc pc = .ok (.newarray .int, 2)) (hz : z ≤ 1000) (hcells : kc + 1 ≤ X.2.2.1.cells) (hslots : ks + z ≤ X.2.2.1.slots) (hn : pc + 2 = n) (k : ∀ q : Nat, Wl G X A nL Q n lv (.ref q :: st) (ws ++ [(q, IN G z (fun _ => 0))]) (kc + 1) (ks + z)) : Wl G X A nL Q pc lv (.int (nI z) :: st) ws kc ks := by
  subst hn; exact fun H locs ls hP hD hS hl => va_newa (a0 := (z, .inl (fun _ => nI 0))) O.1 O.2.1 (O.2.2.2.2.1 _ uz_ai) rfl O.2.2.2.2.2.1 hP hD hS O.2.2.2.2.2.2.1 (fun cA => by rw [vp_cell_i]; rfl) (nI_pos (by omega)) (nI_clamp (by omega)) (by show z * 4 ≤ _; omega) hcells hslots hd (fun q cA H1 hK1 hP1 hD1 hS1 => by
    have e := gI_one (tys := []) O (fun C h => by cases h) O.2.2.2.2.2.2.2.2.2.1 hK1
    subst e
    exact k q H1 locs ls hP1 hD1 hS1 hl)
theorem l_newz (O : gC G X A cc nL own d) {z : Nat} (hd : decode cc pc = .ok (.newarray .boolean, 2)) (hz : z ≤ 1000) (hcells : kc + 1 ≤ X.2.2.1.cells) (hslots : ks + z ≤ X.2.2.1.slots) (hn : pc + 2 = n) (k : ∀ q : Nat, Wl G X A nL Q n lv (.ref q :: st) (ws ++ [(q, ZB G z (fun _ => false))]) (kc + 1) (ks + z)) : Wl G X A nL Q pc lv (.int (nI z) :: st) ws kc ks := by
  subst hn; exact fun H locs ls hP hD hS hl => va_newa (a0 := (z, .inl (fun _ => bI false))) O.1 O.2.1 (O.2.2.2.2.1 _ uz_az) rfl O.2.2.2.2.2.1 hP hD hS O.2.2.2.2.2.2.1 (fun cA => by rw [vp_cell_i]; rfl) (nI_pos (by omega)) (nI_clamp (by omega)) (by show z * 1 ≤ _; omega) hcells hslots hd (fun q cA H1 hK1 hP1 hD1 hS1 => by
    have e := gI_one (tys := []) O (fun C h => by cases h) O.2.2.2.2.2.2.2.2.2.2.1 hK1
    subst e
    exact k q H1 locs ls hP1 hD1 hS1 hl)
theorem l_newq (O : gC G X A cc nL own d) {z t0 index : Nat} {c0 : ClassId} {C : String} (hd : decode cc pc = .ok (.anewarray index, 3)) (hcl : Cond.classLink own index C ∈ gU) (hao : va_AO C X.2.2.2.1) (h0 : G.2.2.1[t0]? = some (c0, .object C)) (hz : z ≤ 1000) (hcells : kc + 1 ≤ X.2.2.1.cells) (hslots : ks + z ≤ X.2.2.1.slots) (hn : pc + 3 = n) (k : ∀ q : Nat, Wl G X A nL Q n lv (.ref q :: st) (ws ++ [(q, .inl (c0, z, .inr (.inr (.inr (.inr (fun _ => none))))))]) (kc + 1) (ks + z)) : Wl G X A nL Q pc lv (.int (nI z) :: st) ws kc ks := by
  subst hn; exact fun H locs ls hP hD hS hl => va_newq O.1 O.2.1 O.2.2.2.1 (O.2.2.2.2.1 _ hcl) hao O.2.2.2.2.2.1 hP hD hS O.2.2.2.2.2.2.1 (nI_pos (by omega)) (nI_clamp (by omega)) (by omega) hcells hslots hd (fun q cA H1 hK1 hP1 hD1 hS1 => by
    have e := gQ_one O h0 hK1
    subst e
    exact k q H1 locs ls hP1 hD1 hS1 hl)
theorem l_putF (O : gC G X A cc nL own d) (hin2 : X.2.2.2.2.2.2.2.1.name = "<init>") {C : String} {T : u_T} {N ci index a : Nat} {fs : List Value} {ty : FieldType} {v : Value} (q0 j : Nat) (hd : decode cc pc = .ok (.putfield index, 3)) (ty0 : Nat → FieldType) (hin : ∀ w ∈ u_ws C T N, w ∈ gU) (hty : ∀ k, k < N → parseFieldDescriptor (T k).2.2.1 = some (ty0 k)) (hnm : ∀ a, a < N → ∀ b, b < N → a ≠ b → (T a).2.1 ≠ (T b).2.1) (he : ws[q0]? = some (a, .inr (ci, fs))) (hc : vwCl[ci]? = some (C, T, N)) (hj : j < N) (hlink : Cond.fieldLink own index (T j).1 (T j).2.1 (T j).2.2.1 ∈ gU) (hdecl : (T j).1 = own) (hp : parseFieldDescriptor (T j).2.2.1 = some ty) (hnr : narrow ty v = v) (hfit : fits ty v = true) (hl2 : j < fs.length) (hfin : (T j).2.2.2 = true) (hn : pc + 3 = n) (hws : ws.set q0 (a, .inr (ci, fs.set j v)) = ws') (k : Wl G X A nL Q n lv st ws' kc ks) : Wl G X A nL Q pc lv (v :: .ref a :: st) ws kc ks := by
  subst hn; subst hws; exact fun H locs ls hP hD hS hl => va_putF O.1 O.2.1 O.2.2.2.2.1 hin ty0 hty hnm O.2.2.2.1 O.2.2.2.2.2.1 hP hD hS q0 he hc j hj (O.2.2.2.2.1 _ hlink) (fun _ h => h) hfin hin2 hdecl hp hnr hfit hl2 hd (fun H1 locs1 hP1 hD1 hS1 => k H1 locs1 ls hP1 hD1 hS1 hl)
theorem l_put (O : gC G X A cc nL own d) {C : String} {T : u_T} {N ci index a : Nat} {fs : List Value} {ty : FieldType} {v : Value} (q0 j : Nat) (hd : decode cc pc = .ok (.putfield index, 3)) (ty0 : Nat → FieldType) (hin : ∀ w ∈ u_ws C T N, w ∈ gU) (hty : ∀ k, k < N → parseFieldDescriptor (T k).2.2.1 = some (ty0 k)) (hnm : ∀ a, a < N → ∀ b, b < N → a ≠ b → (T a).2.1 ≠ (T b).2.1) (he : ws[q0]? = some (a, .inr (ci, fs))) (hc : vwCl[ci]? = some (C, T, N)) (hj : j < N) (hlink : Cond.fieldLink own index (T j).1 (T j).2.1 (T j).2.2.1 ∈ gU) (hp : parseFieldDescriptor (T j).2.2.1 = some ty) (hnr : narrow ty v = v) (hfit : fits ty v = true) (hl2 : j < fs.length) (hfin : (T j).2.2.2 = false) (hn : pc + 3 = n) (hws : ws.set q0 (a, .inr (ci, fs.set j v)) = ws') (k : Wl G X A nL Q n lv st ws' kc ks) : Wl G X A nL Q pc lv (v :: .ref a :: st) ws kc ks := by
  subst hn; subst hws; exact fun H locs ls hP hD hS hl => va_put O.1 O.2.1 O.2.2.2.2.1 hin ty0 hty hnm O.2.2.2.1 O.2.2.2.2.2.1 hP hD hS q0 he hc j hj (O.2.2.2.2.1 _ hlink) (fun _ h => h) hfin hp hnr hfit hl2 hd (fun H1 locs1 hP1 hD1 hS1 => k H1 locs1 ls hP1 hD1 hS1 hl)
theorem l_iast (O : gC G X A cc nL own d) {a z i : Nat} {r : Nat → Int32} {x : Int32} (q0 : Nat) (hd : decode cc pc = .ok (.iastore, 1)) (ha : ws[q0]? = some (a, .inl (gI G, z, .inl r))) (hi : i < z) (hz : z < 2 ^ 31) (hn : pc + 1 = n) (hws : ws.set q0 (a, .inl (gI G, z, .inl (upd r i x))) = ws') (k : Wl G X A nL Q n lv st ws' kc ks) : Wl G X A nL Q pc lv (.int x :: .int (nI i) :: .ref a :: st) ws kc ks := by
  subst hn; subst hws; exact fun H locs ls hP hD hS hl => va_iast O.1 O.2.1 O.2.2.2.2.2.1 hP hD hS q0 0 ha O.2.2.2.2.2.2.2.2.2.1 (vp_in_nI hi hz) hd (fun H1 locs1 hP1 hD1 hS1 => k H1 locs1 ls (by rw [nI_clamp (by omega)] at hP1; exact hP1) (by rw [nI_clamp (by omega)] at hD1; exact hD1) hS1 hl)
theorem l_aast (O : gC G X A cc nL own d) {a z i v ci : Nat} {c0 : ClassId} {r : vw_C} {vs : List Value} {f : Nat → Option Nat} (q0 qk t0 : Nat) (hd : decode cc pc = .ok (.aastore, 1)) (ha : ws[q0]? = some (a, .inl (c0, z, .inr (.inr (.inr (.inr f)))))) (ht : G.2.2.1[t0]? = some (c0, .object r.1)) (hv : ws[qk]? = some (v, .inr (ci, vs))) (hc : vwCl[ci]? = some r) (hi : i < z) (hz : z < 2 ^ 31) (hn : pc + 1 = n) (hws : ws.set q0 (a, .inl (c0, z, .inr (.inr (.inr (.inr (va_up f i (some v))))))) = ws') (k : Wl G X A nL Q n lv st ws' kc ks) : Wl G X A nL Q pc lv (.ref v :: .int (nI i) :: .ref a :: st) ws kc ks := by
  subst hn; subst hws; exact fun H locs ls hP hD hS hl => va_astq O.1 O.2.1 O.2.2.2.2.2.1 hP hD hS q0 t0 qk ci ha ht hv hc (vp_in_nI hi hz) hd (fun H1 locs1 hP1 hD1 hS1 => k H1 locs1 ls (by rw [nI_clamp (by omega)] at hP1; exact hP1) (by rw [nI_clamp (by omega)] at hD1; exact hD1) hS1 hl)
end GBLL
def gb_rmN (d c s : Nat) : Room := { frames := d, cells := c, slots := s, locals := 100 * d }
/-- words beside the tables' that constructors need: nest mates' links, arrays of references -/
def cW (U : State) : Prop := va_Nw (.methodLinkNest "GuiltBell" 9 yX5_init "GuiltBell") U ∧ va_Nw (.methodLinkNest "GuiltBell" 21 yX1_init "GuiltBell") U ∧ va_Nw (.methodLinkNest "GuiltBell" 28 yX4_init "GuiltBell") U ∧ va_Nw (.methodLinkNest "GuiltBell" 35 yX2_init "GuiltBell") U ∧ va_Nw (.methodLinkNest "GuiltBell" 42 yX0_init "GuiltBell") U ∧ va_Nw (.methodLinkNest "GuiltBell" 57 yX3_init "GuiltBell") U ∧ va_Nw (.methodLinkNest "GuiltBell$Scribe" 11 yX5_init "GuiltBell") U ∧ va_AO "GuiltBell$Town" U ∧ va_AO "GuiltBell$Sheet" U
theorem cW.warm {s U : State} (h : cW s) (hW : s.WarmedH U.vm) : cW U := by
  obtain ⟨h1, h2, h3, h4, h5, h6, h7, h8, h9⟩ := h
  exact ⟨h1.warmM hW, h2.warmM hW, h3.warmM hW, h4.warmM hW, h5.warmM hW, h6.warmM hW, h7.warmM hW, h8.moved hW.alike, h9.moved hW.alike⟩
theorem cW.same {s U : State} (h : cW s) (hv : s.vm = U.vm) : cW U := by
  obtain ⟨h1, h2, h3, h4, h5, h6, h7, h8, h9⟩ := h
  exact ⟨va_Nw.same rfl hv h1, va_Nw.same rfl hv h2, va_Nw.same rfl hv h3, va_Nw.same rfl hv h4, va_Nw.same rfl hv h5, va_Nw.same rfl hv h6, va_Nw.same rfl hv h7, h8.moved (by rw [hv]; exact Vm.Alike.refl _), h9.moved (by rw [hv]; exact Vm.Alike.refl _)⟩
def ci_Pc (G : gb_G) (q sz : Nat) (e : va_E) : Array Value → State → Prop := va_Pc [.ref q] (fun U => U.heap.size = sz ∧ va_P G.2.1 vwCl [(q, e)] U.heap ∧ va_K G.2.1 vwCl G.2.2.1 U ∧ cW U)
/-- a constructor: from the fresh object e at q it comes to a world u with P q u, c cells and s slots new -/
def Ci (G : gb_G) (d : Nat) (y : MethodName) (cc : ByteArray) (nL c s : Nat) (e : va_E) (P : Nat → va_W → Prop) : Prop :=
  ∀ q sz : Nat, Met G.1 y (Cond.code y cc nL none :: gU) (gb_rmN d c s) (ci_Pc G q sz e) (va_Qv (P q) (fun (u : va_W) (t : State) => va_P G.2.1 vwCl u t.heap ∧ va_D (va_A [(q, e)] sz) u) (va_A [(q, e)] sz)) c s (va_A [(q, e)] sz)
theorem Ci.of {G : gb_G} {d : Nat} {y : MethodName} {cc : ByteArray} {nL c s : Nat} {e : va_E} {P : Nat → va_W → Prop} (hty : gb_ty G) (hy : plainName y.cls = true) (hyn : y.name = "<init>") (hnL : 1 ≤ nL) (body : ∀ (X : gb_X) (q : Nat) (Qf : State → Prop), gC G X (va_A [(q, e)] X.2.2.2.1.heap.size) cc nL y.cls d → X.2.2.2.2.2.2.2.1.name = "<init>" → cW X.2.2.2.1 → X.2.2.1.cells = c → X.2.2.1.slots = s → (∀ u pc lv, decode cc pc = .ok (.return_, 1) → P q u → Wl G X (va_A [(q, e)] X.2.2.2.1.heap.size) nL Qf pc lv [] u c s) → Wl G X (va_A [(q, e)] X.2.2.2.1.heap.size) nL Qf 0 [(0, .ref q)] [] [(q, e)] 0 0) : Ci G d y cc nL c s e P := by
  intro q sz
  refine Met.ofW (cc := cc) (maxL := nL) (ret := none) hy rfl ?_
  intro p ev st m args below meth cd s₁ B hml hv
  obtain ⟨rfl, hsz, hP, hK, hcw⟩ := hv
  subst hsz
  rw [lg_entry_eq]
  refine body (p, ev, gb_rmN d c s, st, m, _, below, meth, cd) q _ ⟨B.exec, B.bytes, hml, findClass_of_methodNamed B.named, fun w h => atoms_spec (ws := Cond.code y cc nL none :: gU) B.pre w (List.mem_cons_of_mem _ h), hK, fun x hx => Or.inr hx, Nat.le_refl _, Nat.le_refl _, hty⟩ ((name_of_methodNamed B.named B.method).1.trans hyn) hcw rfl rfl ?_ st.heap [] _ hP ⟨fun i j a b ha hb _ => by
      have h1 := (List.getElem?_eq_some_iff.mp ha).1
      have h2 := (List.getElem?_eq_some_iff.mp hb).1
      simp at h1 h2
      omega, fun k x hk => va_A.in hk⟩ va_S.rf (lv_entry [.ref q] (n := nL) hnL)
  intro u pc lv hd hPu H locs ls hP1 hD1 hS1 hl
  exact W.vret B.exec B.bytes B.returns (fun t ht _ => ⟨⟨u, rfl, hPu, by rw [ht]; exact hP1, hD1⟩, hS1.F ht⟩) hS1.2.2 hd B.notSynchronized
theorem ci_blind {G : gb_G} {q sz : Nat} {e : va_E} : FrameBlind (ci_Pc G q sz e) := fun a U g mk h =>
  ⟨h.1, h.2.1, h.2.2.1, va_K.moved (u := U) (U := U.calling g mk a) (Vm.Alike.refl U.vm) h.2.2.2.1, h.2.2.2.2.same rfl⟩
theorem rng_map (w : va_W) (x : Nat × va_E) : (List.range w.length).map (fun i => (w ++ [x])[i]?) = w.map some := by
  apply List.ext_getElem?
  intro i
  by_cases h : i < w.length
  · simp [h, List.getElem?_append_left h]
  · simp [Nat.not_lt.mp h]
theorem rng_nd : ∀ n, va_nd (List.range n) = true := by
  intro n
  have key : ∀ (k n : Nat), va_nd (List.range' k n) = true := by
    intro k n
    induction n generalizing k with
    | zero => rfl
    | succ n ih =>
      rw [List.range'_succ]
      simp only [va_nd]
      simp [ih, List.mem_range']
      try omega
  rw [List.range_eq_range']
  exact key 0 n
section GBCI
variable {G : gb_G} {X : gb_X} {A : Nat → Prop} {cc : ByteArray} {nL : Nat} {own : String} {d : Nat} {Q : State → Prop} {pc n : Nat} {lv lv' : List (Nat × Value)} {st : List Value} {ws ws' : va_W} {kc ks : Nat}
theorem l_initR {y : MethodName} {bytes : ByteArray} {maxL d' c s q idx : Nat} {e : va_E} {P : Nat → va_W → Prop} (O : gC G X A cc nL own d) (hcw : cW X.2.2.2.1)
    (hr : ∀ (H : Heap) (locs : List Loc) (ls : Array Slot), PreS X.2.2.2.1 H (ci_Pc G q H.size e) [.ref q] → lv_has ls nL lv → va_Run X.1 G.1 X.2.1 X.2.2.1 X.2.2.2.1 X.2.2.2.2.1 X.2.2.2.2.2.1 X.2.2.2.2.2.2.1 X.2.2.2.2.2.2.2.1 X.2.2.2.2.2.2.2.2 H locs kc ks c s (F0 X.2.2.2.2.1 pc ls (.ref q :: st)) st (va_Qv (P q) (fun (u : va_W) (t : State) => va_P G.2.1 vwCl u t.heap ∧ va_D (va_A [(q, e)] H.size) u) (va_A [(q, e)] H.size) #[.ref q]) (va_A [(q, e)] H.size))
    (k : ∀ u, P q u → Wl G X A nL Q (pc + 3) lv st (ws ++ u) (kc + c) (ks + s)) : Wl G X A nL Q pc lv (.ref q :: st) (ws ++ [(q, e)]) kc ks := by
  intro H locs ls hP hD hS hl
  have hC : [ws.length].map (fun i => (ws ++ [(q, e)])[i]?) = [(q, e)].map some := by simp
  have hF := va_free (wc := [(q, e)]) hD hS O.2.2.2.2.2.2.1 [ws.length] hC
  have hPc : va_P G.2.1 vwCl [(q, e)] H := fun i x hx => by
    have hz : i < 1 := (List.getElem?_eq_some_iff.mp hx).1
    rw [show i = 0 by omega] at hx
    cases hx
    exact hP ws.length (q, e) (by simp)
  refine va_callv (hr H locs ls ⟨ci_blind, fun U hU hW => ⟨rfl, by rw [hU], by rw [hU]; exact hPc, va_K.moved hW.alike O.2.2.2.2.2.1, hcw.warm hW⟩⟩ hl) hS (fun x _ h => hF x h) hF (fun u t H1 locs1 ht hvm hw hB hz1 hk1 hS1 => ?_)
  obtain ⟨hP1, hD1⟩ := hB
  rw [ht] at hP1
  obtain ⟨hP2, hD2⟩ := va_join (wr := ws) (w1 := u) hP hD [ws.length] (List.range ws.length) hC (rng_map ws (q, e)) (rng_nd _) (fun i hi hm => by simp at hi hm; omega) hk1 hF hP1 hD1
  exact k u hw H1 locs1 ls hP2 hD2 hS1 hl
theorem l_initN {y : MethodName} {bytes : ByteArray} {maxL d' c s q idx : Nat} {e : va_E} {P : Nat → va_W → Prop} {host : String} (O : gC G X A cc nL own d) (hcw : cW X.2.2.2.1) (hd : decode cc pc = .ok (.invokespecial idx, 3)) (hN : va_Nw (.methodLinkNest own idx y host) X.2.2.2.1) (hy : Cond.instanceMethod y ∈ gU ∧ Cond.initialized y.cls ∈ gU ∧ Cond.code y bytes maxL none ∈ gU ∧ gb_nm y 0 ∧ maxL ≤ 80 ∧ y.name = "<init>") (F : Ci G d' y bytes maxL c s e P) (hdd : d' + 1 ≤ d) (hcat : (st.map fun v => v.category).sum ≤ 8) (hcells : kc + c ≤ X.2.2.1.cells) (hslots : ks + s ≤ X.2.2.1.slots) (hn : pc + 3 = n) (k : ∀ u, P q u → Wl G X A nL Q n lv st (ws ++ u) (kc + c) (ks + s)) : Wl G X A nL Q pc lv (.ref q :: st) (ws ++ [(q, e)]) kc ks := by
  subst hn
  refine l_initR (y := y) (bytes := bytes) (maxL := maxL) (d' := d') (idx := idx) O hcw (fun H locs ls hpre hl => ?_) k
  have hT : GoodIn gU (Cond.code y bytes maxL none :: gU) := gU_goodIn (fun w hw => by
    rcases List.mem_cons.mp hw with rfl | h
    · exact hy.2.2.1
    · exact h)
  exact va_runIN (As := []) (rest := st) ⟨O.1, O.2.1, O.2.2.1, O.2.2.2.1, O.2.2.2.2.1⟩ (F q H.size) ⟨va_cnB 0 O.2.2.2.2.1 hT rfl rfl rfl hN (O.2.2.2.2.1 _ hy.2.1) hy.2.2.2.1 ⟨Nat.le_trans hdd O.2.2.2.2.2.2.2.1, by have h1 := O.2.2.2.2.2.2.2.2.1; have h2 : (gb_rmN d' c s).locals = 100 * d' := rfl; have h3 := hy.2.2.2.2.1; omega⟩, hy.2.2.2.2.2, O.2.2.2.2.1 _ hy.1⟩ hpre rfl rfl hl.1 rfl (lv_room hcat) hd ⟨hcells, hslots⟩
theorem l_init {y : MethodName} {bytes : ByteArray} {maxL d' c s q idx : Nat} {e : va_E} {P : Nat → va_W → Prop} (O : gC G X A cc nL own d) (hcw : cW X.2.2.2.1) (hd : decode cc pc = .ok (.invokespecial idx, 3)) (hlk : Cond.methodLink own idx y ∈ gU) (hy : Cond.instanceMethod y ∈ gU ∧ Cond.initialized y.cls ∈ gU ∧ Cond.code y bytes maxL none ∈ gU ∧ gb_nm y 0 ∧ maxL ≤ 80 ∧ y.name = "<init>") (F : Ci G d' y bytes maxL c s e P) (hdd : d' + 1 ≤ d) (hcat : (st.map fun v => v.category).sum ≤ 8) (hcells : kc + c ≤ X.2.2.1.cells) (hslots : ks + s ≤ X.2.2.1.slots) (hn : pc + 3 = n) (k : ∀ u, P q u → Wl G X A nL Q n lv st (ws ++ u) (kc + c) (ks + s)) : Wl G X A nL Q pc lv (.ref q :: st) (ws ++ [(q, e)]) kc ks := by
  subst hn
  refine l_initR (y := y) (bytes := bytes) (maxL := maxL) (d' := d') (idx := idx) O hcw (fun H locs ls hpre hl => ?_) k
  have hT : GoodIn gU (Cond.code y bytes maxL none :: gU) := gU_goodIn (fun w hw => by
    rcases List.mem_cons.mp hw with rfl | h
    · exact hy.2.2.1
    · exact h)
  exact va_runI (As := []) (rest := st) ⟨O.1, O.2.1, O.2.2.1, O.2.2.2.1, O.2.2.2.2.1⟩ (F q H.size) (cwI 0 O.2.2.2.2.1 hT rfl rfl rfl (O.2.2.2.2.1 _ hy.2.1) (O.2.2.2.2.1 _ hlk) (O.2.2.2.2.1 _ hy.1) hy.2.2.2.2.2 hy.2.2.2.1 ⟨Nat.le_trans hdd O.2.2.2.2.2.2.2.1, by have h1 := O.2.2.2.2.2.2.2.2.1; have h2 : (gb_rmN d' c s).locals = 100 * d' := rfl; have h3 := hy.2.2.2.2.1; omega⟩) hpre rfl rfl hl.1 rfl (lv_room hcat) hd ⟨hcells, hslots⟩
end GBCI
