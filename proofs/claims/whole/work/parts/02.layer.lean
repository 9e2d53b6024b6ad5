/-! THE LAYER: all cells of the run by numbers; a method's meaning as a relation between numbered cells -/
/-- all words of the tables that a callee may take along -/
def gU : List Cond := lw_tbl.filter goodWord
theorem gU_in {w : Cond} (h : w ∈ lw_tbl) (hg : goodWord w = true) : w ∈ gU := List.mem_filter.mpr ⟨h, hg⟩
theorem gU_goodIn {ws : List Cond} (h : ∀ w ∈ ws, w ∈ gU) : GoodIn gU ws := fun w hw => ⟨h w hw, good_of_word (List.mem_filter.mp (h w hw)).2⟩
theorem gU_1 {w : Cond} (i : Nat) (h : tables_1_1[i]? = some w) (hg : goodWord w = true) : w ∈ gU := gU_in (List.mem_append_right _ (List.mem_append_left _ (List.mem_of_getElem? h))) hg
theorem gU_2 {w : Cond} (i : Nat) (h : tables_1_2[i]? = some w) (hg : goodWord w = true) : w ∈ gU := gU_in (List.mem_append_right _ (List.mem_append_right _ (List.mem_append_left _ (List.mem_of_getElem? h)))) hg
theorem gU_3 {w : Cond} (i : Nat) (h : tables_1_3[i]? = some w) (hg : goodWord w = true) : w ∈ gU := gU_in (List.mem_append_right _ (List.mem_append_right _ (List.mem_append_right _ (List.mem_append_left _ (List.mem_of_getElem? h))))) hg
theorem gU_4 {w : Cond} (i : Nat) (h : tables_1_4[i]? = some w) (hg : goodWord w = true) : w ∈ gU := gU_in (List.mem_append_right _ (List.mem_append_right _ (List.mem_append_right _ (List.mem_append_right _ (List.mem_append_left _ (List.mem_of_getElem? h)))))) hg
theorem gU_5 {w : Cond} (i : Nat) (h : tables_1_5[i]? = some w) (hg : goodWord w = true) : w ∈ gU := gU_in (List.mem_append_right _ (List.mem_append_right _ (List.mem_append_right _ (List.mem_append_right _ (List.mem_append_right _ (List.mem_of_getElem? h)))))) hg
theorem gU_p {w : Cond} (i : Nat) (h : (k2_sels lw_privs)[i]? = some w) (hg : goodWord w = true) : w ∈ gU := gU_in (List.mem_append_left _ (List.mem_of_getElem? h)) hg
abbrev gb_M : Type := Nat → va_E
/-- launch, class ids and slots, array classes, address of each cell, how many cells, the words on statics -/
abbrev gb_G : Type := Launch × va_G × List (ClassId × FieldType) × (Nat → Nat) × Nat × ((Nat → Prop) → State → Prop)
abbrev gb_X : Type := Program × Env × Room × State × MethodId × Array Value × List Frame × Method × Code
abbrev gb_ad (G : gb_G) : Nat → Nat := G.2.2.2.1
abbrev gb_N (G : gb_G) : Nat := G.2.2.2.2.1
abbrev gb_Z (G : gb_G) : (Nat → Prop) → State → Prop := G.2.2.2.2.2
def gb_A (ad : Nat → Nat) (N sz : Nat) : Nat → Prop := fun q => (∃ k : Nat, k < N ∧ q = ad k) ∨ sz ≤ q
def gb_pl (ad : Nat → Nat) (N : Nat) (M : gb_M) : va_W := (List.range N).map (fun k => (ad k, M k))
theorem gb_pl_get {ad : Nat → Nat} {N : Nat} {M : gb_M} {k : Nat} (h : k < N) : (gb_pl ad N M)[k]? = some (ad k, M k) := by
  simp [gb_pl, h]
theorem gb_pl_at {ad : Nat → Nat} {N : Nat} {M : gb_M} {k : Nat} {e : va_E} (h : k < N) (he : M k = e) : (gb_pl ad N M)[k]? = some (ad k, e) := by
  rw [gb_pl_get h, he]
theorem gb_pl_set {ad : Nat → Nat} {N : Nat} {M : gb_M} {k : Nat} {e : va_E} : (gb_pl ad N M).set k (ad k, e) = gb_pl ad N (va_up M k e) := by
  apply List.ext_getElem?
  intro j
  by_cases hj : k = j
  · subst hj
    by_cases hN : k < N
    · rw [List.getElem?_set_self (by simpa [gb_pl] using hN), gb_pl_get hN, va_up_self]
    · rw [List.getElem?_eq_none (by simpa [gb_pl] using hN), List.getElem?_eq_none (by simpa [gb_pl] using hN)]
  · rw [List.getElem?_set_ne hj]
    by_cases hN : j < N
    · rw [gb_pl_get hN, gb_pl_get hN, va_up_ne _ _ (fun q => hj q.symm)]
    · rw [List.getElem?_eq_none (by simpa [gb_pl] using hN), List.getElem?_eq_none (by simpa [gb_pl] using hN)]
def gb_rm (d : Nat) : Room := { frames := d, cells := 0, slots := 0, locals := 100 * d }
def gb_ZOk (Z : (Nat → Prop) → State → Prop) : Prop :=
  (∀ (A : Nat → Prop) (u U : State), Z A u → U.vm = u.vm → U.heap = u.heap → Z A U) ∧
  (∀ (A B : Nat → Prop) (u U : State), Z A u → u.WarmedH U.vm → (∀ q : Nat, q < u.heap.size → ¬ A q → U.heap[q]? = u.heap[q]?) → (∀ q : Nat, B q → A q) → Z B U)
/-- what holds of the whole run's table -/
def gb_Gk (G : gb_G) : Prop := (∀ i j : Nat, i < gb_N G → j < gb_N G → gb_ad G i = gb_ad G j → i = j) ∧ gb_ZOk (gb_Z G)
theorem gb_D {ad : Nat → Nat} {N sz : Nat} {M : gb_M} (h : ∀ i j : Nat, i < N → j < N → ad i = ad j → i = j) : va_D (gb_A ad N sz) (gb_pl ad N M) := by
  refine ⟨fun i j p q hp hq e => ?_, fun k q hk => ?_⟩
  · have hi : i < N := by have := (List.getElem?_eq_some_iff.mp hp).1; simpa [gb_pl] using this
    have hj : j < N := by have := (List.getElem?_eq_some_iff.mp hq).1; simpa [gb_pl] using this
    rw [gb_pl_get hi] at hp
    rw [gb_pl_get hj] at hq
    cases hp
    cases hq
    exact h i j hi hj e
  · have hi : k < N := by have := (List.getElem?_eq_some_iff.mp hk).1; simpa [gb_pl] using this
    rw [gb_pl_get hi] at hk
    cases hk
    exact Or.inl ⟨k, hi, rfl⟩
def gb_Pc (G : gb_G) (av : List Value) (M : gb_M) (sz : Nat) : Array Value → State → Prop := va_Pc av (fun U => U.heap.size = sz ∧ va_P G.2.1 vwCl (gb_pl (gb_ad G) (gb_N G) M) U.heap ∧ va_K G.2.1 vwCl G.2.2.1 U ∧ gb_Z G (gb_A (gb_ad G) (gb_N G) sz) U)
def gb_Qc (G : gb_G) (Q : Option Value → gb_M → Prop) (sz : Nat) : Array Value → State → Outcome → State → Prop := fun _ st oc t => (∃ (v : Option Value) (M' : gb_M), oc = .returned v ∧ Q v M' ∧ va_P G.2.1 vwCl (gb_pl (gb_ad G) (gb_N G) M') t.heap) ∧ va_F (gb_A (gb_ad G) (gb_N G) sz) st t
/-- the method y, from the cells M with the arguments av: it returns, and Q holds of the answer and the cells then -/
def Fn (G : gb_G) (d : Nat) (y : MethodName) (cc : ByteArray) (nL : Nat) (ret : Option FieldType) (av : List Value) (M : gb_M) (Q : Option Value → gb_M → Prop) : Prop :=
  ∀ sz : Nat, Met G.1 y (Cond.code y cc nL ret :: gU) (gb_rm d) (gb_Pc G av M sz) (gb_Qc G Q sz) 0 0 (gb_A (gb_ad G) (gb_N G) sz)
/-- the frame that we walk in -/
def gb_Ok (G : gb_G) (X : gb_X) (cc : ByteArray) (nL : Nat) (ret : Option FieldType) (own : String) (d : Nat) : Prop :=
  X.1.tables.exec = Jvm.exec ∧ X.2.2.2.2.2.2.2.2.code = cc ∧ X.2.2.2.2.2.2.2.2.maxLocals = nL ∧ X.2.2.2.1.vm.findClass own = some X.2.2.2.2.1.cls ∧ (∀ w ∈ gU, w.before X.2.2.2.2.2.1 X.2.2.2.1 = true) ∧ X.2.2.2.2.2.2.2.1.sig.returnType = ret ∧ X.2.2.2.2.2.2.2.1.locks = false ∧ va_K G.2.1 vwCl G.2.2.1 X.2.2.2.1 ∧ gb_Z G (gb_A (gb_ad G) (gb_N G) X.2.2.2.1.heap.size) X.2.2.2.1 ∧ gb_Gk G ∧ d ≤ X.2.2.1.frames ∧ 100 * d ≤ X.2.2.1.locals
def Wm (G : gb_G) (X : gb_X) (nL : Nat) (Q : Option Value → gb_M → Prop) (pc : Nat) (lv : List (Nat × Value)) (st : List Value) (M : gb_M) : Prop :=
  ∀ (H : Heap) (locs : List Loc) (ls : Array Slot), va_P G.2.1 vwCl (gb_pl (gb_ad G) (gb_N G) M) H → va_S (gb_A (gb_ad G) (gb_N G) X.2.2.2.1.heap.size) X.2.2.2.1.heap H locs → lv_has ls nL lv →
    W X.1 G.1 X.2.1 X.2.2.1 X.2.2.2.1 X.2.2.2.2.1 X.2.2.2.2.2.1 X.2.2.2.2.2.2.1 X.2.2.2.2.2.2.2.1 X.2.2.2.2.2.2.2.2 H locs 0 0 (MQ X.2.2.2.2.2.2.1 (gb_Qc G Q X.2.2.2.1.heap.size) X.2.2.2.2.2.1 X.2.2.2.1 0 0 (gb_A (gb_ad G) (gb_N G) X.2.2.2.1.heap.size)) (F0 X.2.2.2.2.1 pc ls st)
theorem Fn.of {G : gb_G} {d : Nat} {y : MethodName} {cc : ByteArray} {nL : Nat} {ret : Option FieldType} {av : List Value} {M : gb_M} {Q : Option Value → gb_M → Prop} (hG : gb_Gk G) (lv : List (Nat × Value)) (hy : plainName y.cls = true) (hlen : (lg_sl av).length ≤ nL) (hlv : lv_args 0 av = lv) (body : ∀ X, gb_Ok G X cc nL ret y.cls d → Wm G X nL Q 0 lv [] M) : Fn G d y cc nL ret av M Q := by
  intro sz
  refine Met.ofW (cc := cc) (maxL := nL) (ret := ret) hy rfl ?_
  intro p e s m args below meth c s₁ B hml hv
  obtain ⟨rfl, hsz, hP, hK, hZ⟩ := hv
  subst hsz
  subst hlv
  rw [lg_entry_eq]
  exact body (p, e, gb_rm d, s, m, av.toArray, below, meth, c) ⟨B.exec, B.bytes, hml, findClass_of_methodNamed B.named, fun w h => atoms_spec (ws := Cond.code y cc nL ret :: gU) B.pre w (List.mem_cons_of_mem _ h), B.returns, B.notSynchronized, hK, hZ, hG, Nat.le_refl _, Nat.le_refl _⟩ s.heap [] _ hP va_S.rf (lv_entry av hlen)
theorem Fn.post {G : gb_G} {d : Nat} {y : MethodName} {cc : ByteArray} {nL : Nat} {ret : Option FieldType} {av : List Value} {M : gb_M} {Q Q' : Option Value → gb_M → Prop} (h : Fn G d y cc nL ret av M Q) (hq : ∀ v M', Q v M' → Q' v M') : Fn G d y cc nL ret av M Q' := by
  intro sz p e ha hc hk s m args below hf happ hP hx
  obtain ⟨k, o, h1, h2, h3, ⟨⟨v, M', e1, e2, e3⟩, hF⟩, h5⟩ := h sz p e ha hc hk s m args below hf happ hP hx
  exact ⟨k, o, h1, h2, h3, ⟨⟨v, M', e1, hq v M' e2, e3⟩, hF⟩, h5⟩
def lvg (lv : List (Nat × Value)) (i : Nat) : Option Value := (lv.find? (fun q => q.1 == i)).map (·.2)
theorem lvg_at {ls : Array Slot} {nL : Nat} {lv : List (Nat × Value)} {i : Nat} {v : Value} (hl : lv_has ls nL lv) (h : lvg lv i = some v) : ls[i]? = some (.val v) := by
  unfold lvg at h
  cases hf : lv.find? (fun q => q.1 == i) with
  | none => rw [hf] at h; cases h
  | some q =>
    rw [hf] at h
    cases h
    have h1 := List.find?_some hf
    have h2 := List.mem_of_find?_eq_some hf
    have h3 : q.1 = i := by simpa using h1
    rw [← h3]
    exact hl.2.2 q h2
theorem lvg_ex {lv : List (Nat × Value)} {i : Nat} {v : Value} (h : lvg lv i = some v) : ∃ k : Nat, lv[k]? = some (i, v) := by
  unfold lvg at h
  cases hf : lv.find? (fun q => q.1 == i) with
  | none => rw [hf] at h; cases h
  | some q =>
    rw [hf] at h
    cases h
    have h1 := List.find?_some hf
    have h2 := List.mem_of_find?_eq_some hf
    have h3 : q.1 = i := by simpa using h1
    obtain ⟨k, hk⟩ := List.getElem?_of_mem h2
    refine ⟨k, ?_⟩
    rw [hk, ← h3]
section GBL
variable {G : gb_G} {X : gb_X} {cc : ByteArray} {nL : Nat} {ret : Option FieldType} {own : String} {d : Nat} {Q : Option Value → gb_M → Prop} {pc n : Nat} {lv lv' : List (Nat × Value)} {st : List Value} {M : gb_M}
theorem w_iconst (O : gb_Ok G X cc nL ret own d) {z : Int} {v : Int32} (hd : decode cc pc = .ok (.iconst z, 1)) (hv : Int32.ofInt z = v) (hn : pc + 1 = n) (k : Wm G X nL Q n lv (.int v :: st) M) : Wm G X nL Q pc lv st M := by
  subst hn; exact fun H locs ls hP hS hl => lv_iconst O.1 O.2.1 hd hv (k H locs ls hP hS hl)
theorem w_bipush (O : gb_Ok G X cc nL ret own d) {z : Int} {v : Int32} (hd : decode cc pc = .ok (.bipush z, 2)) (hv : (Int8.ofInt z).toInt32 = v) (hn : pc + 2 = n) (k : Wm G X nL Q n lv (.int v :: st) M) : Wm G X nL Q pc lv st M := by
  subst hn; exact fun H locs ls hP hS hl => lv_bipush O.1 O.2.1 hd hv (k H locs ls hP hS hl)
theorem w_sipush (O : gb_Ok G X cc nL ret own d) {z : Int} {v : Int32} (hd : decode cc pc = .ok (.sipush z, 3)) (hv : (Int16.ofInt z).toInt32 = v) (hn : pc + 3 = n) (k : Wm G X nL Q n lv (.int v :: st) M) : Wm G X nL Q pc lv st M := by
  subst hn; exact fun H locs ls hP hS hl => lv_sipush O.1 O.2.1 hd hv (k H locs ls hP hS hl)
theorem w_lconst (O : gb_Ok G X cc nL ret own d) {z : Fin 2} {v : Int64} (hd : decode cc pc = .ok (.lconst z, 1)) (hv : Int64.ofNat (z : Nat) = v) (hn : pc + 1 = n) (k : Wm G X nL Q n lv (.long v :: st) M) : Wm G X nL Q pc lv st M := by
  subst hn; exact fun H locs ls hP hS hl => lv_lconst O.1 O.2.1 hd hv (k H locs ls hP hS hl)
theorem w_iload_n (O : gb_Ok G X cc nL ret own d) {j : Fin 4} {i : Nat} {x : Int32} (hd : decode cc pc = .ok (.iload_n j, 1)) (hi : (j : Nat) = i) (hv : lvg lv i = some (.int x)) (hn : pc + 1 = n) (k : Wm G X nL Q n lv (.int x :: st) M) : Wm G X nL Q pc lv st M := by
  subst hn; exact fun H locs ls hP hS hl => lv_iload_n O.1 O.2.1 hd hi (lvg_at hl hv) (k H locs ls hP hS hl)
theorem w_iload (O : gb_Ok G X cc nL ret own d) {i : Nat} {x : Int32} (hd : decode cc pc = .ok (.iload i, 2)) (hv : lvg lv i = some (.int x)) (hn : pc + 2 = n) (k : Wm G X nL Q n lv (.int x :: st) M) : Wm G X nL Q pc lv st M := by
  subst hn; exact fun H locs ls hP hS hl => lv_iload O.1 O.2.1 hd (lvg_at hl hv) (k H locs ls hP hS hl)
theorem w_lload_n (O : gb_Ok G X cc nL ret own d) {j : Fin 4} {i : Nat} {x : Int64} (hd : decode cc pc = .ok (.lload_n j, 1)) (hi : (j : Nat) = i) (hv : lvg lv i = some (.long x)) (hn : pc + 1 = n) (k : Wm G X nL Q n lv (.long x :: st) M) : Wm G X nL Q pc lv st M := by
  subst hn; exact fun H locs ls hP hS hl => lv_lload_n O.1 O.2.1 hd hi (lvg_at hl hv) (k H locs ls hP hS hl)
theorem w_lload (O : gb_Ok G X cc nL ret own d) {i : Nat} {x : Int64} (hd : decode cc pc = .ok (.lload i, 2)) (hv : lvg lv i = some (.long x)) (hn : pc + 2 = n) (k : Wm G X nL Q n lv (.long x :: st) M) : Wm G X nL Q pc lv st M := by
  subst hn; exact fun H locs ls hP hS hl => lv_lload O.1 O.2.1 hd (lvg_at hl hv) (k H locs ls hP hS hl)
theorem w_aload_n (O : gb_Ok G X cc nL ret own d) {j : Fin 4} {i : Nat} {x : Nat} (hd : decode cc pc = .ok (.aload_n j, 1)) (hi : (j : Nat) = i) (hv : lvg lv i = some (.ref x)) (hn : pc + 1 = n) (k : Wm G X nL Q n lv (.ref x :: st) M) : Wm G X nL Q pc lv st M := by
  subst hn; exact fun H locs ls hP hS hl => lv_aload_n O.1 O.2.1 hd hi (lvg_at hl hv) (k H locs ls hP hS hl)
theorem w_aload (O : gb_Ok G X cc nL ret own d) {i : Nat} {x : Nat} (hd : decode cc pc = .ok (.aload i, 2)) (hv : lvg lv i = some (.ref x)) (hn : pc + 2 = n) (k : Wm G X nL Q n lv (.ref x :: st) M) : Wm G X nL Q pc lv st M := by
  subst hn; exact fun H locs ls hP hS hl => lv_aload O.1 O.2.1 hd (lvg_at hl hv) (k H locs ls hP hS hl)
abbrev lvs1 (lv : List (Nat × Value)) (i : Nat) (v : Value) : List (Nat × Value) := (i, v) :: lv.filter (fun q => !(q.1 == i) && !(q.1 + 1 == i && q.2.category == 2))
abbrev lvs2 (lv : List (Nat × Value)) (i : Nat) (v : Value) : List (Nat × Value) := (i, v) :: lv.filter (fun q => !(q.1 == i) && (!(q.1 == i + 1) && !(q.1 + 1 == i && q.2.category == 2)))
theorem w_istore_n (O : gb_Ok G X cc nL ret own d) {j : Fin 4} {i : Nat} {x : Int32} (hd : decode cc pc = .ok (.istore_n j, 1)) (hi : (j : Nat) = i) (hL : i < nL) (hv : lvs1 lv i (.int x) = lv') (hn : pc + 1 = n) (k : Wm G X nL Q n lv' st M) : Wm G X nL Q pc lv (.int x :: st) M := by
  subst hn; exact fun H locs ls hP hS hl => lv_istore_n O.1 O.2.1 hd hi hl hL hv (fun ls' hl' => k H locs ls' hP hS hl')
theorem w_istore (O : gb_Ok G X cc nL ret own d) {i : Nat} {x : Int32} (hd : decode cc pc = .ok (.istore i, 2)) (hL : i < nL) (hv : lvs1 lv i (.int x) = lv') (hn : pc + 2 = n) (k : Wm G X nL Q n lv' st M) : Wm G X nL Q pc lv (.int x :: st) M := by
  subst hn; exact fun H locs ls hP hS hl => lv_istore O.1 O.2.1 hd hl hL hv (fun ls' hl' => k H locs ls' hP hS hl')
theorem w_lstore_n (O : gb_Ok G X cc nL ret own d) {j : Fin 4} {i : Nat} {x : Int64} (hd : decode cc pc = .ok (.lstore_n j, 1)) (hi : (j : Nat) = i) (hL : i + 1 < nL) (hv : lvs2 lv i (.long x) = lv') (hn : pc + 1 = n) (k : Wm G X nL Q n lv' st M) : Wm G X nL Q pc lv (.long x :: st) M := by
  subst hn; exact fun H locs ls hP hS hl => lv_lstore_n O.1 O.2.1 hd hi hl hL hv (fun ls' hl' => k H locs ls' hP hS hl')
theorem w_lstore (O : gb_Ok G X cc nL ret own d) {i : Nat} {x : Int64} (hd : decode cc pc = .ok (.lstore i, 2)) (hL : i + 1 < nL) (hv : lvs2 lv i (.long x) = lv') (hn : pc + 2 = n) (k : Wm G X nL Q n lv' st M) : Wm G X nL Q pc lv (.long x :: st) M := by
  subst hn; exact fun H locs ls hP hS hl => lv_lstore O.1 O.2.1 hd hl hL hv (fun ls' hl' => k H locs ls' hP hS hl')
theorem w_astore_n (O : gb_Ok G X cc nL ret own d) {j : Fin 4} {i : Nat} {x : Nat} (hd : decode cc pc = .ok (.astore_n j, 1)) (hi : (j : Nat) = i) (hL : i < nL) (hv : lvs1 lv i (.ref x) = lv') (hn : pc + 1 = n) (k : Wm G X nL Q n lv' st M) : Wm G X nL Q pc lv (.ref x :: st) M := by
  subst hn; exact fun H locs ls hP hS hl => lv_astore_n O.1 O.2.1 hd hi hl hL hv (fun ls' hl' => k H locs ls' hP hS hl')
theorem w_astore (O : gb_Ok G X cc nL ret own d) {i : Nat} {x : Nat} (hd : decode cc pc = .ok (.astore i, 2)) (hL : i < nL) (hv : lvs1 lv i (.ref x) = lv') (hn : pc + 2 = n) (k : Wm G X nL Q n lv' st M) : Wm G X nL Q pc lv (.ref x :: st) M := by
  subst hn; exact fun H locs ls hP hS hl => lv_astore O.1 O.2.1 hd hl hL hv (fun ls' hl' => k H locs ls' hP hS hl')
theorem w_iinc (O : gb_Ok G X cc nL ret own d) {i : Nat} {z : Int} {x v : Int32} (hd : decode cc pc = .ok (.iinc i z, 3)) (hg : lvg lv i = some (.int x)) (hz : Int32.ofInt z = v) (hL : i < nL) (hv : lvs1 lv i (.int (x + v)) = lv') (hn : pc + 3 = n) (k : Wm G X nL Q n lv' st M) : Wm G X nL Q pc lv st M := by
  subst hn; subst hz
  obtain ⟨j, hj⟩ := lvg_ex hg
  exact fun H locs ls hP hS hl => lv_iinc O.1 O.2.1 hd hl hj rfl hL hv (fun ls' hl' => k H locs ls' hP hS hl')
-- ROWS BY PROGRAM (wip/mklayer.py)
theorem w_iadd (O : gb_Ok G X cc nL ret own d) {x y : Int32} (hd : decode cc pc = .ok (.iadd, 1))  (hn : pc + 1 = n) (k : Wm G X nL Q n lv (.int (x + y) :: st) M) : Wm G X nL Q pc lv (.int y :: .int x :: st) M := by
  subst hn; exact fun H locs ls hP hS hl => lv_iadd O.1 O.2.1 hd  (k H locs ls hP hS hl)
theorem w_isub (O : gb_Ok G X cc nL ret own d) {x y : Int32} (hd : decode cc pc = .ok (.isub, 1))  (hn : pc + 1 = n) (k : Wm G X nL Q n lv (.int (x - y) :: st) M) : Wm G X nL Q pc lv (.int y :: .int x :: st) M := by
  subst hn; exact fun H locs ls hP hS hl => lv_isub O.1 O.2.1 hd  (k H locs ls hP hS hl)
theorem w_imul (O : gb_Ok G X cc nL ret own d) {x y : Int32} (hd : decode cc pc = .ok (.imul, 1))  (hn : pc + 1 = n) (k : Wm G X nL Q n lv (.int (x * y) :: st) M) : Wm G X nL Q pc lv (.int y :: .int x :: st) M := by
  subst hn; exact fun H locs ls hP hS hl => lv_imul O.1 O.2.1 hd  (k H locs ls hP hS hl)
theorem w_iand (O : gb_Ok G X cc nL ret own d) {x y : Int32} (hd : decode cc pc = .ok (.iand, 1))  (hn : pc + 1 = n) (k : Wm G X nL Q n lv (.int (x &&& y) :: st) M) : Wm G X nL Q pc lv (.int y :: .int x :: st) M := by
  subst hn; exact fun H locs ls hP hS hl => lv_iand O.1 O.2.1 hd  (k H locs ls hP hS hl)
theorem w_ior (O : gb_Ok G X cc nL ret own d) {x y : Int32} (hd : decode cc pc = .ok (.ior, 1))  (hn : pc + 1 = n) (k : Wm G X nL Q n lv (.int (x ||| y) :: st) M) : Wm G X nL Q pc lv (.int y :: .int x :: st) M := by
  subst hn; exact fun H locs ls hP hS hl => lv_ior O.1 O.2.1 hd  (k H locs ls hP hS hl)
theorem w_ixor (O : gb_Ok G X cc nL ret own d) {x y : Int32} (hd : decode cc pc = .ok (.ixor, 1))  (hn : pc + 1 = n) (k : Wm G X nL Q n lv (.int (x ^^^ y) :: st) M) : Wm G X nL Q pc lv (.int y :: .int x :: st) M := by
  subst hn; exact fun H locs ls hP hS hl => lv_ixor O.1 O.2.1 hd  (k H locs ls hP hS hl)
theorem w_ishl (O : gb_Ok G X cc nL ret own d) {x y : Int32} (hd : decode cc pc = .ok (.ishl, 1))  (hn : pc + 1 = n) (k : Wm G X nL Q n lv (.int (x <<< (y &&& 31)) :: st) M) : Wm G X nL Q pc lv (.int y :: .int x :: st) M := by
  subst hn; exact fun H locs ls hP hS hl => lv_ishl O.1 O.2.1 hd  (k H locs ls hP hS hl)
theorem w_ishr (O : gb_Ok G X cc nL ret own d) {x y : Int32} (hd : decode cc pc = .ok (.ishr, 1))  (hn : pc + 1 = n) (k : Wm G X nL Q n lv (.int (x >>> (y &&& 31)) :: st) M) : Wm G X nL Q pc lv (.int y :: .int x :: st) M := by
  subst hn; exact fun H locs ls hP hS hl => lv_ishr O.1 O.2.1 hd  (k H locs ls hP hS hl)
theorem w_idiv (O : gb_Ok G X cc nL ret own d) {x y : Int32} (hd : decode cc pc = .ok (.idiv, 1)) (hz : ¬ y = 0) (hn : pc + 1 = n) (k : Wm G X nL Q n lv (.int (x / y) :: st) M) : Wm G X nL Q pc lv (.int y :: .int x :: st) M := by
  subst hn; exact fun H locs ls hP hS hl => lv_idiv O.1 O.2.1 hd hz (k H locs ls hP hS hl)
theorem w_irem (O : gb_Ok G X cc nL ret own d) {x y : Int32} (hd : decode cc pc = .ok (.irem, 1)) (hz : ¬ y = 0) (hn : pc + 1 = n) (k : Wm G X nL Q n lv (.int (x - x / y * y) :: st) M) : Wm G X nL Q pc lv (.int y :: .int x :: st) M := by
  subst hn; exact fun H locs ls hP hS hl => lv_irem O.1 O.2.1 hd hz (k H locs ls hP hS hl)
theorem w_ineg (O : gb_Ok G X cc nL ret own d) {x : Int32} (hd : decode cc pc = .ok (.ineg, 1))  (hn : pc + 1 = n) (k : Wm G X nL Q n lv (.int (-x) :: st) M) : Wm G X nL Q pc lv (.int x :: st) M := by
  subst hn; exact fun H locs ls hP hS hl => lv_ineg O.1 O.2.1 hd  (k H locs ls hP hS hl)
theorem w_iushr (O : gb_Ok G X cc nL ret own d) {x y v : Int32} (hd : decode cc pc = .ok (.iushr, 1)) (hv : (x.toUInt32 >>> (y.toUInt32 &&& Int32.toUInt32 31)).toInt32 = v) (hn : pc + 1 = n) (k : Wm G X nL Q n lv (.int v :: st) M) : Wm G X nL Q pc lv (.int y :: .int x :: st) M := by
  subst hn; exact fun H locs ls hP hS hl => lv_iushr O.1 O.2.1 hd hv (k H locs ls hP hS hl)
theorem w_ladd (O : gb_Ok G X cc nL ret own d) {x y : Int64} (hd : decode cc pc = .ok (.ladd, 1))  (hn : pc + 1 = n) (k : Wm G X nL Q n lv (.long (x + y) :: st) M) : Wm G X nL Q pc lv (.long y :: .long x :: st) M := by
  subst hn; exact fun H locs ls hP hS hl => lv_ladd O.1 O.2.1 hd  (k H locs ls hP hS hl)
theorem w_lsub (O : gb_Ok G X cc nL ret own d) {x y : Int64} (hd : decode cc pc = .ok (.lsub, 1))  (hn : pc + 1 = n) (k : Wm G X nL Q n lv (.long (x - y) :: st) M) : Wm G X nL Q pc lv (.long y :: .long x :: st) M := by
  subst hn; exact fun H locs ls hP hS hl => lv_lsub O.1 O.2.1 hd  (k H locs ls hP hS hl)
theorem w_lmul (O : gb_Ok G X cc nL ret own d) {x y : Int64} (hd : decode cc pc = .ok (.lmul, 1))  (hn : pc + 1 = n) (k : Wm G X nL Q n lv (.long (x * y) :: st) M) : Wm G X nL Q pc lv (.long y :: .long x :: st) M := by
  subst hn; exact fun H locs ls hP hS hl => lv_lmul O.1 O.2.1 hd  (k H locs ls hP hS hl)
theorem w_ldiv (O : gb_Ok G X cc nL ret own d) {x y : Int64} (hd : decode cc pc = .ok (.ldiv, 1)) (hz : ¬ y = 0) (hn : pc + 1 = n) (k : Wm G X nL Q n lv (.long (x / y) :: st) M) : Wm G X nL Q pc lv (.long y :: .long x :: st) M := by
  subst hn; exact fun H locs ls hP hS hl => lv_ldiv O.1 O.2.1 hd hz (k H locs ls hP hS hl)
theorem w_lrem (O : gb_Ok G X cc nL ret own d) {x y : Int64} (hd : decode cc pc = .ok (.lrem, 1)) (hz : ¬ y = 0) (hn : pc + 1 = n) (k : Wm G X nL Q n lv (.long (x - x / y * y) :: st) M) : Wm G X nL Q pc lv (.long y :: .long x :: st) M := by
  subst hn; exact fun H locs ls hP hS hl => lv_lrem O.1 O.2.1 hd hz (k H locs ls hP hS hl)
theorem w_lcmp (O : gb_Ok G X cc nL ret own d) {x y : Int64} (hd : decode cc pc = .ok (.lcmp, 1))  (hn : pc + 1 = n) (k : Wm G X nL Q n lv (.int (lg_cmp x y) :: st) M) : Wm G X nL Q pc lv (.long y :: .long x :: st) M := by
  subst hn; exact fun H locs ls hP hS hl => W.lcmp O.1 O.2.1 hd  (k H locs ls hP hS hl)
theorem w_i2l (O : gb_Ok G X cc nL ret own d) {x : Int32} (hd : decode cc pc = .ok (.i2l, 1))  (hn : pc + 1 = n) (k : Wm G X nL Q n lv (.long x.toInt64 :: st) M) : Wm G X nL Q pc lv (.int x :: st) M := by
  subst hn; exact fun H locs ls hP hS hl => lv_i2l O.1 O.2.1 hd rfl (k H locs ls hP hS hl)
theorem w_i2b (O : gb_Ok G X cc nL ret own d) {x : Int32} (hd : decode cc pc = .ok (.i2b, 1))  (hn : pc + 1 = n) (k : Wm G X nL Q n lv (.int x.toInt8.toInt32 :: st) M) : Wm G X nL Q pc lv (.int x :: st) M := by
  subst hn; exact fun H locs ls hP hS hl => lv_i2b O.1 O.2.1 hd rfl (k H locs ls hP hS hl)
theorem w_i2s (O : gb_Ok G X cc nL ret own d) {x : Int32} (hd : decode cc pc = .ok (.i2s, 1))  (hn : pc + 1 = n) (k : Wm G X nL Q n lv (.int x.toInt16.toInt32 :: st) M) : Wm G X nL Q pc lv (.int x :: st) M := by
  subst hn; exact fun H locs ls hP hS hl => lv_i2s O.1 O.2.1 hd rfl (k H locs ls hP hS hl)
theorem w_i2c (O : gb_Ok G X cc nL ret own d) {x : Int32} (hd : decode cc pc = .ok (.i2c, 1))  (hn : pc + 1 = n) (k : Wm G X nL Q n lv (.int (x.toUInt32 % 65536).toInt32 :: st) M) : Wm G X nL Q pc lv (.int x :: st) M := by
  subst hn; exact fun H locs ls hP hS hl => lv_i2c O.1 O.2.1 hd rfl (k H locs ls hP hS hl)
theorem w_dup (O : gb_Ok G X cc nL ret own d) {va : Value} (hd : decode cc pc = .ok (.dup, 1)) (h1 : va.category = 1) (hn : pc + 1 = n) (k : Wm G X nL Q n lv (va :: va :: st) M) : Wm G X nL Q pc lv (va :: st) M := by
  subst hn; exact fun H locs ls hP hS hl => lv_dup O.1 O.2.1 hd h1 (k H locs ls hP hS hl)
theorem w_pop (O : gb_Ok G X cc nL ret own d) {va : Value} (hd : decode cc pc = .ok (.pop, 1)) (h1 : va.category = 1) (hn : pc + 1 = n) (k : Wm G X nL Q n lv st M) : Wm G X nL Q pc lv (va :: st) M := by
  subst hn; exact fun H locs ls hP hS hl => lv_pop O.1 O.2.1 hd h1 (k H locs ls hP hS hl)
theorem w_dup_x1 (O : gb_Ok G X cc nL ret own d) {va vb : Value} (hd : decode cc pc = .ok (.dup_x1, 1)) (h1 : va.category = 1) (h2 : vb.category = 1) (hn : pc + 1 = n) (k : Wm G X nL Q n lv (va :: vb :: va :: st) M) : Wm G X nL Q pc lv (va :: vb :: st) M := by
  subst hn; exact fun H locs ls hP hS hl => lv_dup_x1 O.1 O.2.1 hd h1 h2 (k H locs ls hP hS hl)
theorem w_dup2 (O : gb_Ok G X cc nL ret own d) {va vb : Value} (hd : decode cc pc = .ok (.dup2, 1)) (h1 : va.category = 1) (h2 : vb.category = 1) (hn : pc + 1 = n) (k : Wm G X nL Q n lv (va :: vb :: va :: vb :: st) M) : Wm G X nL Q pc lv (va :: vb :: st) M := by
  subst hn; exact fun H locs ls hP hS hl => lv_dup2_11 O.1 O.2.1 hd h1 h2 (k H locs ls hP hS hl)
theorem w_if_eq (O : gb_Ok G X cc nL ret own d) {x : Int32} {off : Int} {tgt : Nat} (hd : decode cc pc = .ok (.ifCond .eq off, 3)) (ht : (pc : Int) + off = (tgt : Int)) (hn : pc + 3 = n) (kt : x = 0 → Wm G X nL Q tgt lv st M) (kf : ¬ x = 0 → Wm G X nL Q n lv st M) : Wm G X nL Q pc lv (.int x :: st) M := by
  subst hn; exact fun H locs ls hP hS hl => lv_if_eq O.1 O.2.1 hd ht (fun h => kt h H locs ls hP hS hl) (fun h => kf h H locs ls hP hS hl)
theorem w_if_ne (O : gb_Ok G X cc nL ret own d) {x : Int32} {off : Int} {tgt : Nat} (hd : decode cc pc = .ok (.ifCond .ne off, 3)) (ht : (pc : Int) + off = (tgt : Int)) (hn : pc + 3 = n) (kt : ¬ x = 0 → Wm G X nL Q tgt lv st M) (kf : x = 0 → Wm G X nL Q n lv st M) : Wm G X nL Q pc lv (.int x :: st) M := by
  subst hn; exact fun H locs ls hP hS hl => lv_if_ne O.1 O.2.1 hd ht (fun h => kt h H locs ls hP hS hl) (fun h => kf h H locs ls hP hS hl)
theorem w_if_lt (O : gb_Ok G X cc nL ret own d) {x : Int32} {off : Int} {tgt : Nat} (hd : decode cc pc = .ok (.ifCond .lt off, 3)) (ht : (pc : Int) + off = (tgt : Int)) (hn : pc + 3 = n) (kt : x < 0 → Wm G X nL Q tgt lv st M) (kf : ¬ x < 0 → Wm G X nL Q n lv st M) : Wm G X nL Q pc lv (.int x :: st) M := by
  subst hn; exact fun H locs ls hP hS hl => lv_if_lt O.1 O.2.1 hd ht (fun h => kt h H locs ls hP hS hl) (fun h => kf h H locs ls hP hS hl)
theorem w_if_ge (O : gb_Ok G X cc nL ret own d) {x : Int32} {off : Int} {tgt : Nat} (hd : decode cc pc = .ok (.ifCond .ge off, 3)) (ht : (pc : Int) + off = (tgt : Int)) (hn : pc + 3 = n) (kt : 0 ≤ x → Wm G X nL Q tgt lv st M) (kf : ¬ 0 ≤ x → Wm G X nL Q n lv st M) : Wm G X nL Q pc lv (.int x :: st) M := by
  subst hn; exact fun H locs ls hP hS hl => lv_if_ge O.1 O.2.1 hd ht (fun h => kt h H locs ls hP hS hl) (fun h => kf h H locs ls hP hS hl)
theorem w_if_gt (O : gb_Ok G X cc nL ret own d) {x : Int32} {off : Int} {tgt : Nat} (hd : decode cc pc = .ok (.ifCond .gt off, 3)) (ht : (pc : Int) + off = (tgt : Int)) (hn : pc + 3 = n) (kt : 0 < x → Wm G X nL Q tgt lv st M) (kf : ¬ 0 < x → Wm G X nL Q n lv st M) : Wm G X nL Q pc lv (.int x :: st) M := by
  subst hn; exact fun H locs ls hP hS hl => lv_if_gt O.1 O.2.1 hd ht (fun h => kt h H locs ls hP hS hl) (fun h => kf h H locs ls hP hS hl)
theorem w_if_le (O : gb_Ok G X cc nL ret own d) {x : Int32} {off : Int} {tgt : Nat} (hd : decode cc pc = .ok (.ifCond .le off, 3)) (ht : (pc : Int) + off = (tgt : Int)) (hn : pc + 3 = n) (kt : x ≤ 0 → Wm G X nL Q tgt lv st M) (kf : ¬ x ≤ 0 → Wm G X nL Q n lv st M) : Wm G X nL Q pc lv (.int x :: st) M := by
  subst hn; exact fun H locs ls hP hS hl => lv_if_le O.1 O.2.1 hd ht (fun h => kt h H locs ls hP hS hl) (fun h => kf h H locs ls hP hS hl)
theorem w_icmp_eq (O : gb_Ok G X cc nL ret own d) {x y : Int32} {off : Int} {tgt : Nat} (hd : decode cc pc = .ok (.if_icmp .eq off, 3)) (ht : (pc : Int) + off = (tgt : Int)) (hn : pc + 3 = n) (kt : x = y → Wm G X nL Q tgt lv st M) (kf : ¬ x = y → Wm G X nL Q n lv st M) : Wm G X nL Q pc lv (.int y :: .int x :: st) M := by
  subst hn; exact fun H locs ls hP hS hl => lv_icmp_eq O.1 O.2.1 hd ht (fun h => kt h H locs ls hP hS hl) (fun h => kf h H locs ls hP hS hl)
theorem w_icmp_ne (O : gb_Ok G X cc nL ret own d) {x y : Int32} {off : Int} {tgt : Nat} (hd : decode cc pc = .ok (.if_icmp .ne off, 3)) (ht : (pc : Int) + off = (tgt : Int)) (hn : pc + 3 = n) (kt : ¬ x = y → Wm G X nL Q tgt lv st M) (kf : x = y → Wm G X nL Q n lv st M) : Wm G X nL Q pc lv (.int y :: .int x :: st) M := by
  subst hn; exact fun H locs ls hP hS hl => lv_icmp_ne O.1 O.2.1 hd ht (fun h => kt h H locs ls hP hS hl) (fun h => kf h H locs ls hP hS hl)
theorem w_icmp_lt (O : gb_Ok G X cc nL ret own d) {x y : Int32} {off : Int} {tgt : Nat} (hd : decode cc pc = .ok (.if_icmp .lt off, 3)) (ht : (pc : Int) + off = (tgt : Int)) (hn : pc + 3 = n) (kt : x < y → Wm G X nL Q tgt lv st M) (kf : ¬ x < y → Wm G X nL Q n lv st M) : Wm G X nL Q pc lv (.int y :: .int x :: st) M := by
  subst hn; exact fun H locs ls hP hS hl => lv_icmp_lt O.1 O.2.1 hd ht (fun h => kt h H locs ls hP hS hl) (fun h => kf h H locs ls hP hS hl)
theorem w_icmp_ge (O : gb_Ok G X cc nL ret own d) {x y : Int32} {off : Int} {tgt : Nat} (hd : decode cc pc = .ok (.if_icmp .ge off, 3)) (ht : (pc : Int) + off = (tgt : Int)) (hn : pc + 3 = n) (kt : y ≤ x → Wm G X nL Q tgt lv st M) (kf : ¬ y ≤ x → Wm G X nL Q n lv st M) : Wm G X nL Q pc lv (.int y :: .int x :: st) M := by
  subst hn; exact fun H locs ls hP hS hl => lv_icmp_ge O.1 O.2.1 hd ht (fun h => kt h H locs ls hP hS hl) (fun h => kf h H locs ls hP hS hl)
theorem w_icmp_gt (O : gb_Ok G X cc nL ret own d) {x y : Int32} {off : Int} {tgt : Nat} (hd : decode cc pc = .ok (.if_icmp .gt off, 3)) (ht : (pc : Int) + off = (tgt : Int)) (hn : pc + 3 = n) (kt : y < x → Wm G X nL Q tgt lv st M) (kf : ¬ y < x → Wm G X nL Q n lv st M) : Wm G X nL Q pc lv (.int y :: .int x :: st) M := by
  subst hn; exact fun H locs ls hP hS hl => lv_icmp_gt O.1 O.2.1 hd ht (fun h => kt h H locs ls hP hS hl) (fun h => kf h H locs ls hP hS hl)
theorem w_icmp_le (O : gb_Ok G X cc nL ret own d) {x y : Int32} {off : Int} {tgt : Nat} (hd : decode cc pc = .ok (.if_icmp .le off, 3)) (ht : (pc : Int) + off = (tgt : Int)) (hn : pc + 3 = n) (kt : x ≤ y → Wm G X nL Q tgt lv st M) (kf : ¬ x ≤ y → Wm G X nL Q n lv st M) : Wm G X nL Q pc lv (.int y :: .int x :: st) M := by
  subst hn; exact fun H locs ls hP hS hl => lv_icmp_le O.1 O.2.1 hd ht (fun h => kt h H locs ls hP hS hl) (fun h => kf h H locs ls hP hS hl)
theorem w_goto (O : gb_Ok G X cc nL ret own d) {off : Int} {tgt : Nat} (hd : decode cc pc = .ok (.goto off, 3)) (ht : (pc : Int) + off = (tgt : Int)) (k : Wm G X nL Q tgt lv st M) : Wm G X nL Q pc lv st M :=
  fun H locs ls hP hS hl => lv_goto O.1 O.2.1 hd ht (k H locs ls hP hS hl)
theorem w_tableOut (O : gb_Ok G X cc nL ret own d) {dflt lo hi : Int} {offs : Array Int} {len : Nat} {x : Int32} {tgt : Nat} (hd : decode cc pc = .ok (.tableswitch dflt lo hi offs, len)) (h : x.toInt < lo ∨ hi < x.toInt) (ht : (pc : Int) + dflt = (tgt : Int)) (k : Wm G X nL Q tgt lv st M) : Wm G X nL Q pc lv (.int x :: st) M :=
  fun H locs ls hP hS hl => lv_tableOut O.1 O.2.1 hd h ht (k H locs ls hP hS hl)
theorem w_tableIn (O : gb_Ok G X cc nL ret own d) {dflt lo hi : Int} {offs : Array Int} {len : Nat} {x : Int32} {off : Int} {tgt : Nat} (hd : decode cc pc = .ok (.tableswitch dflt lo hi offs, len)) (h1 : ¬ x.toInt < lo) (h2 : ¬ hi < x.toInt) (ho : offs[(x.toInt - lo).toNat]? = some off) (ht : (pc : Int) + off = (tgt : Int)) (k : Wm G X nL Q tgt lv st M) : Wm G X nL Q pc lv (.int x :: st) M :=
  fun H locs ls hP hS hl => lv_tableIn O.1 O.2.1 hd h1 h2 ho ht (k H locs ls hP hS hl)
theorem w_ldc (O : gb_Ok G X cc nL ret own d) {index : Nat} {v : Int32} (hd : decode cc pc = .ok (.ldc index, 2)) (hc : Cond.constant own index v ∈ gU) (hn : pc + 2 = n) (k : Wm G X nL Q n lv (.int v :: st) M) : Wm G X nL Q pc lv st M := by
  subst hn; exact fun H locs ls hP hS hl => lv_ldc O.1 O.2.1 O.2.2.2.1 (O.2.2.2.2.1 _ hc) hd (k H locs ls hP hS hl)
theorem w_ldcw (O : gb_Ok G X cc nL ret own d) {index : Nat} {v : Int32} (hd : decode cc pc = .ok (.ldc_w index, 3)) (hc : Cond.constant own index v ∈ gU) (hn : pc + 3 = n) (k : Wm G X nL Q n lv (.int v :: st) M) : Wm G X nL Q pc lv st M := by
  subst hn; exact fun H locs ls hP hS hl => lv_ldcw O.1 O.2.1 O.2.2.2.1 (O.2.2.2.2.1 _ hc) hd (k H locs ls hP hS hl)
theorem w_ldc2 (O : gb_Ok G X cc nL ret own d) {index : Nat} {v : Int64} (hd : decode cc pc = .ok (.ldc2_w index, 3)) (hc : Cond.constantLong own index v ∈ gU) (hn : pc + 3 = n) (k : Wm G X nL Q n lv (.long v :: st) M) : Wm G X nL Q pc lv st M := by
  subst hn; exact fun H locs ls hP hS hl => lv_ldc2 O.1 O.2.1 O.2.2.2.1 (O.2.2.2.2.1 _ hc) hd (k H locs ls hP hS hl)
theorem w_getf (O : gb_Ok G X cc nL ret own d) {a ci N idx : Nat} {C : String} {T : u_T} {fs : List Value} {v : Value} (j : Nat) (hd : decode cc pc = .ok (.getfield idx, 3)) (haN : a < gb_N G) (ha : M a = .inr (ci, fs)) (hc : vwCl[ci]? = some (C, T, N)) (hj : j < N) (hin : ∀ w ∈ u_ws C T N, w ∈ gU) (hlk : Cond.fieldLink own idx (T j).1 (T j).2.1 (T j).2.2.1 ∈ gU) (hv : fs[j]? = some v) (hn : pc + 3 = n) (k : Wm G X nL Q n lv (v :: st) M) : Wm G X nL Q pc lv (.ref (gb_ad G a) :: st) M := by
  subst hn; exact fun H locs ls hP hS hl => va_get O.1 O.2.1 O.2.2.2.2.1 hin O.2.2.2.1 O.2.2.2.2.2.2.2.1 hP a (gb_pl_at haN ha) hc j hj (O.2.2.2.2.1 _ hlk) (fun _ h => h) hv hd (k H locs ls hP hS hl)
theorem w_putf (O : gb_Ok G X cc nL ret own d) {a ci N idx : Nat} {C : String} {T : u_T} {fs fs' : List Value} {v : Value} (j : Nat) (hd : decode cc pc = .ok (.putfield idx, 3)) (haN : a < gb_N G) (ha : M a = .inr (ci, fs)) (hc : vwCl[ci]? = some (C, T, N)) (hj : j < N) (hin : ∀ w ∈ u_ws C T N, w ∈ gU) (hlk : Cond.fieldLink own idx (T j).1 (T j).2.1 (T j).2.2.1 ∈ gU) (ty0 : Nat → FieldType) (hty : ∀ k, k < N → parseFieldDescriptor (T k).2.2.1 = some (ty0 k)) (hnm : ∀ a, a < N → ∀ b, b < N → a ≠ b → (T a).2.1 ≠ (T b).2.1) (hfin : (T j).2.2.2 = false) (hnar : narrow (ty0 j) v = v) (hfit : fits (ty0 j) v = true) (hfl : j < fs.length) (hfs : fs.set j v = fs') (hn : pc + 3 = n) (k : Wm G X nL Q n lv st (va_up M a (.inr (ci, fs')))) : Wm G X nL Q pc lv (v :: .ref (gb_ad G a) :: st) M := by
  subst hn; subst hfs; exact fun H locs ls hP hS hl => va_put O.1 O.2.1 O.2.2.2.2.1 hin ty0 hty hnm O.2.2.2.1 O.2.2.2.2.2.2.2.1 hP (gb_D O.2.2.2.2.2.2.2.2.2.1.1) hS a (gb_pl_at haN ha) hc j hj (O.2.2.2.2.1 _ hlk) (fun _ h => h) hfin (hty j hj) hnar hfit hfl hd (fun H1 locs1 hP1 _ hS1 => k H1 locs1 ls (gb_pl_set ▸ hP1) hS1 hl)
theorem w_iald (O : gb_Ok G X cc nL ret own d) {a t0 z : Nat} {cA : ClassId} {r : Nat → Int32} {i : Int32} (hd : decode cc pc = .ok (.iaload, 1)) (haN : a < gb_N G) (ha : M a = .inl (cA, z, .inl r)) (ht : G.2.2.1[t0]? = some (cA, .int)) (hi : vp_in i z) (hn : pc + 1 = n) (k : Wm G X nL Q n lv (.int (r i.toNatClampNeg) :: st) M) : Wm G X nL Q pc lv (.int i :: .ref (gb_ad G a) :: st) M := by
  subst hn; exact fun H locs ls hP hS hl => va_iald O.1 O.2.1 O.2.2.2.2.2.2.2.1 hP a t0 (gb_pl_at haN ha) ht hi hd (k H locs ls hP hS hl)
theorem w_iast (O : gb_Ok G X cc nL ret own d) {a t0 z : Nat} {cA : ClassId} {r : Nat → Int32} {i x : Int32} (hd : decode cc pc = .ok (.iastore, 1)) (haN : a < gb_N G) (ha : M a = .inl (cA, z, .inl r)) (ht : G.2.2.1[t0]? = some (cA, .int)) (hi : vp_in i z) (hn : pc + 1 = n) (k : Wm G X nL Q n lv st (va_up M a (.inl (cA, z, .inl (upd r i.toNatClampNeg x))))) : Wm G X nL Q pc lv (.int x :: .int i :: .ref (gb_ad G a) :: st) M := by
  subst hn; exact fun H locs ls hP hS hl => va_iast O.1 O.2.1 O.2.2.2.2.2.2.2.1 hP (gb_D O.2.2.2.2.2.2.2.2.2.1.1) hS a t0 (gb_pl_at haN ha) ht hi hd (fun H1 locs1 hP1 _ hS1 => k H1 locs1 ls (gb_pl_set ▸ hP1) hS1 hl)
theorem w_zald (O : gb_Ok G X cc nL ret own d) {a t0 z : Nat} {cA : ClassId} {r : Nat → Int32} {i : Int32} (hd : decode cc pc = .ok (.baload, 1)) (haN : a < gb_N G) (ha : M a = .inl (cA, z, .inl r)) (ht : G.2.2.1[t0]? = some (cA, .boolean)) (hi : vp_in i z) (hn : pc + 1 = n) (k : Wm G X nL Q n lv (.int (r i.toNatClampNeg) :: st) M) : Wm G X nL Q pc lv (.int i :: .ref (gb_ad G a) :: st) M := by
  subst hn; exact fun H locs ls hP hS hl => va_zald O.1 O.2.1 O.2.2.2.2.2.2.2.1 hP a t0 (gb_pl_at haN ha) ht hi hd (k H locs ls hP hS hl)
theorem w_zast (O : gb_Ok G X cc nL ret own d) {a t0 z : Nat} {cA : ClassId} {r : Nat → Int32} {i x : Int32} (hd : decode cc pc = .ok (.bastore, 1)) (haN : a < gb_N G) (ha : M a = .inl (cA, z, .inl r)) (ht : G.2.2.1[t0]? = some (cA, .boolean)) (hi : vp_in i z) (hn : pc + 1 = n) (k : Wm G X nL Q n lv st (va_up M a (.inl (cA, z, .inl (upd r i.toNatClampNeg (vp_nar .boolean x)))))) : Wm G X nL Q pc lv (.int x :: .int i :: .ref (gb_ad G a) :: st) M := by
  subst hn; exact fun H locs ls hP hS hl => va_zast O.1 O.2.1 O.2.2.2.2.2.2.2.1 hP (gb_D O.2.2.2.2.2.2.2.2.2.1.1) hS a t0 (gb_pl_at haN ha) ht hi hd (fun H1 locs1 hP1 _ hS1 => k H1 locs1 ls (gb_pl_set ▸ hP1) hS1 hl)
theorem w_aald (O : gb_Ok G X cc nL ret own d) {a t0 z : Nat} {cA : ClassId} {C : String} {r : Nat → Option Nat} {i : Int32} {b : Nat} (hd : decode cc pc = .ok (.aaload, 1)) (haN : a < gb_N G) (ha : M a = .inl (cA, z, .inr (.inr (.inr (.inr r))))) (ht : G.2.2.1[t0]? = some (cA, .object C)) (hi : vp_in i z) (hr : r i.toNatClampNeg = some b) (hn : pc + 1 = n) (k : Wm G X nL Q n lv (.ref b :: st) M) : Wm G X nL Q pc lv (.int i :: .ref (gb_ad G a) :: st) M := by
  subst hn; exact fun H locs ls hP hS hl => va_aldq O.1 O.2.1 O.2.2.2.2.2.2.2.1 hP a t0 (gb_pl_at haN ha) ht hi hd (by rw [hr]; exact k H locs ls hP hS hl)
theorem w_alen (O : gb_Ok G X cc nL ret own d) {a t0 : Nat} {cA : ClassId} {x : vp_A} {ty : FieldType} {v : Int32} (hd : decode cc pc = .ok (.arraylength, 1)) (haN : a < gb_N G) (ha : M a = .inl (cA, x)) (ht : G.2.2.1[t0]? = some (cA, ty)) (hv : Int32.ofNat x.1 = v) (hn : pc + 1 = n) (k : Wm G X nL Q n lv (.int v :: st) M) : Wm G X nL Q pc lv (.ref (gb_ad G a) :: st) M := by
  subst hn; exact fun H locs ls hP hS hl => va_alen O.1 O.2.1 O.2.2.2.2.2.2.2.1 hP a t0 (gb_pl_at haN ha) ht hv hd (k H locs ls hP hS hl)
theorem w_mmax (O : gb_Ok G X cc nL ret own d) {x y : Int32} {index : Nat} (hd : decode cc pc = .ok (.invokestatic index, 3)) (h1 : Cond.methodLink own index Lib.Math.max.name ∈ gU) (h2 : Cond.static Lib.Math.max.name ∈ gU) (h3 : Cond.initialized "java/lang/Math" ∈ gU) (h4 : Cond.code Lib.Math.max.name Lib.Math.max.code 2 (some .int) ∈ gU) (h5 : 1 ≤ d) (h6 : (st.map fun v => v.category).sum ≤ 80) (hn : pc + 3 = n) (k : Wm G X nL Q n lv (.int (if x < y then y else x) :: st) M) : Wm G X nL Q pc lv (.int y :: .int x :: st) M := by
  subst hn; exact fun H locs ls hP hS hl => va_mmax O.1 O.2.1 (O.2.2.1.trans hl.1.symm) O.2.2.2.1 (O.2.2.2.2.1 _ h1) (O.2.2.2.2.1 _ h2) (O.2.2.2.2.1 _ h3) (O.2.2.2.2.1 _ h4) (Nat.le_trans h5 O.2.2.2.2.2.2.2.2.2.2.1) (by have := O.2.2.2.2.2.2.2.2.2.2.2; omega) (Nat.zero_le _) (Nat.zero_le _) hd (k H locs ls hP hS hl)
theorem w_mmin (O : gb_Ok G X cc nL ret own d) {x y : Int32} {index : Nat} (hd : decode cc pc = .ok (.invokestatic index, 3)) (h1 : Cond.methodLink own index Lib.Math.min.name ∈ gU) (h2 : Cond.static Lib.Math.min.name ∈ gU) (h3 : Cond.initialized "java/lang/Math" ∈ gU) (h4 : Cond.code Lib.Math.min.name Lib.Math.min.code 2 (some .int) ∈ gU) (h5 : 1 ≤ d) (h6 : (st.map fun v => v.category).sum ≤ 80) (hn : pc + 3 = n) (k : Wm G X nL Q n lv (.int (if y < x then y else x) :: st) M) : Wm G X nL Q pc lv (.int y :: .int x :: st) M := by
  subst hn; exact fun H locs ls hP hS hl => va_mmin O.1 O.2.1 (O.2.2.1.trans hl.1.symm) O.2.2.2.1 (O.2.2.2.2.1 _ h1) (O.2.2.2.2.1 _ h2) (O.2.2.2.2.1 _ h3) (O.2.2.2.2.1 _ h4) (Nat.le_trans h5 O.2.2.2.2.2.2.2.2.2.2.1) (by have := O.2.2.2.2.2.2.2.2.2.2.2; omega) (Nat.zero_le _) (Nat.zero_le _) hd (k H locs ls hP hS hl)
theorem gb_ac {st : List Value} {d x : Nat} (h5 : 1 ≤ d) (h6 : (st.map fun v => v.category).sum ≤ 40) (h : 100 * d ≤ x) : (st.map fun v => v.category).sum + (nativeFrameWords "java/lang/System" "arraycopy" 5 + 11) ≤ x := by
  have e : nativeFrameWords "java/lang/System" "arraycopy" 5 ≤ 40 := by decide +kernel
  omega
theorem w_copyi (O : gb_Ok G X cc nL ret own d) {a b t0 z0 z1 : Nat} {cA : ClassId} {r r1 : Nat → Int32} {sp dp m : Int32} {index : Nat} (hd : decode cc pc = .ok (.invokestatic index, 3)) (h1 : Cond.methodLink own index arraycopyName ∈ gU) (h2 : Cond.native arraycopyName ∈ gU) (h3 : Cond.static arraycopyName ∈ gU) (h4 : Cond.initialized "java/lang/System" ∈ gU) (h5 : 1 ≤ d) (h6 : (st.map fun v => v.category).sum ≤ 40) (haN : a < gb_N G) (hbN : b < gb_N G) (ha : M a = .inl (cA, z0, .inl r)) (hb : M b = .inl (cA, z1, .inl r1)) (ht : G.2.2.1[t0]? = some (cA, .int)) (g1 : ¬ sp < 0) (g2 : ¬ dp < 0) (g3 : ¬ m < 0) (g4 : sp.toNatClampNeg + m.toNatClampNeg ≤ z0) (g5 : dp.toNatClampNeg + m.toNatClampNeg ≤ z1) (hn : pc + 3 = n) (k : Wm G X nL Q n lv st (va_up M b (.inl (cA, z1, .inl (va_cpy r r1 sp.toNatClampNeg dp.toNatClampNeg m.toNatClampNeg))))) : Wm G X nL Q pc lv (.int m :: .int dp :: .ref (gb_ad G b) :: .int sp :: .ref (gb_ad G a) :: st) M := by
  subst hn; exact fun H locs ls hP hS hl => va_copyi O.1 O.2.1 (O.2.2.1.trans hl.1.symm) O.2.2.2.1 (O.2.2.2.2.1 _ h1) (O.2.2.2.2.1 _ h2) (O.2.2.2.2.1 _ h3) (O.2.2.2.2.1 _ h4) O.2.2.2.2.2.2.2.1 hP (gb_D O.2.2.2.2.2.2.2.2.2.1.1) hS a b t0 t0 (gb_pl_at haN ha) (gb_pl_at hbN hb) ht ht (by decide) g1 g2 g3 g4 g5 (fun _ _ => rfl) (Nat.le_trans h5 O.2.2.2.2.2.2.2.2.2.2.1) (gb_ac h5 h6 O.2.2.2.2.2.2.2.2.2.2.2) hd (fun H1 locs1 hP1 _ hS1 => k H1 locs1 ls (gb_pl_set ▸ hP1) hS1 hl)
theorem gb_end (O : gb_Ok G X cc nL ret own d) {v : Option Value} {H : Heap} {locs : List Loc} (hP : va_P G.2.1 vwCl (gb_pl (gb_ad G) (gb_N G) M) H) (hS : va_S (gb_A (gb_ad G) (gb_N G) X.2.2.2.1.heap.size) X.2.2.2.1.heap H locs) (q : Q v M) : ∀ t : State, t.heap = H → X.2.2.2.1.WarmedH t.vm → gb_Qc G Q X.2.2.2.1.heap.size X.2.2.2.2.2.1 X.2.2.2.1 (.returned v) t := fun t ht _ => ⟨⟨v, M, rfl, q, by rw [ht]; exact hP⟩, hS.F ht⟩
theorem w_iret (O : gb_Ok G X cc nL (some .int) own d) {v : Int32} (hd : decode cc pc = .ok (.ireturn, 1)) (q : Q (some (.int v)) M) : Wm G X nL Q pc lv [.int v] M :=
  fun H locs ls hP hS hl => W.iret O.1 O.2.1 O.2.2.2.2.2.1 (gb_end O hP hS q) hS.2.2 hd O.2.2.2.2.2.2.1
theorem w_zret {ty : FieldType} (O : gb_Ok G X cc nL (some ty) own d) {v : Int32} (hd : decode cc pc = .ok (.ireturn, 1)) (hnar : narrow ty (.int v) = .int v) (q : Q (some (.int v)) M) : Wm G X nL Q pc lv [.int v] M :=
  fun H locs ls hP hS hl => W.zret O.1 O.2.1 O.2.2.2.2.2.1 hnar (gb_end O hP hS q) hS.2.2 hd O.2.2.2.2.2.2.1
theorem w_lret (O : gb_Ok G X cc nL (some .long) own d) {v : Int64} (hd : decode cc pc = .ok (.lreturn, 1)) (q : Q (some (.long v)) M) : Wm G X nL Q pc lv [.long v] M :=
  fun H locs ls hP hS hl => W.lret O.1 O.2.1 O.2.2.2.2.2.1 (gb_end O hP hS q) hS.2.2 hd O.2.2.2.2.2.2.1
theorem w_vret (O : gb_Ok G X cc nL none own d) (hd : decode cc pc = .ok (.return_, 1)) (q : Q none M) : Wm G X nL Q pc lv [] M :=
  fun H locs ls hP hS hl => W.vret O.1 O.2.1 O.2.2.2.2.2.1 (gb_end O hP hS q) hS.2.2 hd O.2.2.2.2.2.2.1
/-- behind a call -/
theorem gb_call {H : Heap} {locs : List Loc} {ls : Array Slot} {rest st0 : List Value} {Q' : Option Value → gb_M → Prop} {a : Array Value}
    (hr : va_Run X.1 G.1 X.2.1 X.2.2.1 X.2.2.2.1 X.2.2.2.2.1 X.2.2.2.2.2.1 X.2.2.2.2.2.2.1 X.2.2.2.2.2.2.2.1 X.2.2.2.2.2.2.2.2 H locs 0 0 0 0 (F0 X.2.2.2.2.1 pc ls st0) rest (gb_Qc G Q' H.size a) (gb_A (gb_ad G) (gb_N G) H.size))
    (hS : va_S (gb_A (gb_ad G) (gb_N G) X.2.2.2.1.heap.size) X.2.2.2.1.heap H locs) (hl : lv_has ls nL lv) (k : ∀ (v : Option Value) (M' : gb_M), Q' v M' → Wm G X nL Q (pc + 3) lv (v.toList ++ rest) M') :
    W X.1 G.1 X.2.1 X.2.2.1 X.2.2.2.1 X.2.2.2.2.1 X.2.2.2.2.2.1 X.2.2.2.2.2.2.1 X.2.2.2.2.2.2.2.1 X.2.2.2.2.2.2.2.2 H locs 0 0 (MQ X.2.2.2.2.2.2.1 (gb_Qc G Q X.2.2.2.1.heap.size) X.2.2.2.2.2.1 X.2.2.2.1 0 0 (gb_A (gb_ad G) (gb_N G) X.2.2.2.1.heap.size)) (F0 X.2.2.2.2.1 pc ls st0) := by
  intro T hT Y
  obtain ⟨v, st₀, t, T', L, h0, Y', hL, e1, e2, ⟨⟨v', M', hv, hq, hP'⟩, hz, hk⟩, stp⟩ := hr T hT Y
  cases hv
  rw [h0] at hz hk
  have sub : ∀ q : Nat, gb_A (gb_ad G) (gb_N G) H.size q → gb_A (gb_ad G) (gb_N G) X.2.2.2.1.heap.size q := fun q h => h.imp id (fun h => Nat.le_trans hS.1 h)
  obtain ⟨t2, a1, b1⟩ := k v M' hq T'.heap (locs ++ L) ls (by rw [e1]; exact hP')
    ⟨Nat.le_trans hS.1 (by rw [e1]; exact hz), fun q h1 h2 => by rw [e1, hk q (Nat.lt_of_lt_of_le h1 hS.1) (fun z => h2 (sub q z))]; exact hS.2.1 q h1 h2, fun q hq => by
      rcases List.mem_append.mp hq with h | h
      · exact hS.2.2 q h
      · exact sub _ (hL q h)⟩ hl T' rfl Y'
  exact ⟨t2, stp t2 a1, b1⟩
theorem gb_blind (hG : gb_Gk G) {av : List Value} {sz : Nat} : FrameBlind (gb_Pc G av M sz) := fun a U g mk h =>
  ⟨h.1, h.2.1, h.2.2.1, va_K.moved (u := U) (U := U.calling g mk a) (Vm.Alike.refl U.vm) h.2.2.2.1, hG.2.1 _ U (U.calling g mk a) h.2.2.2.2 rfl rfl⟩
theorem gb_pre (O : gb_Ok G X cc nL ret own d) {av : List Value} {H : Heap} {locs : List Loc} (hP : va_P G.2.1 vwCl (gb_pl (gb_ad G) (gb_N G) M) H) (hS : va_S (gb_A (gb_ad G) (gb_N G) X.2.2.2.1.heap.size) X.2.2.2.1.heap H locs) : ∀ U : State, U.heap = H → X.2.2.2.1.WarmedH U.vm → gb_Pc G av M H.size av.toArray U := fun U hU hW =>
  ⟨rfl, by rw [hU], by rw [hU]; exact hP, va_K.moved hW.alike O.2.2.2.2.2.2.2.1, O.2.2.2.2.2.2.2.2.2.1.2.2 _ _ _ _ O.2.2.2.2.2.2.2.2.1 hW (fun q h1 h2 => by rw [hU]; exact hS.2.1 q h1 h2) (fun q h => h.imp id (fun h => Nat.le_trans hS.1 h))⟩
def gb_nm (y : MethodName) (n : Nat) : Prop := y.cls ≠ "java/lang/invoke/MethodHandle" ∧ y.cls ≠ "java/lang/invoke/VarHandle" ∧ (parseMethodDescriptor y.desc).map (fun d => d.parameters.length) = some n
/-- what the tables say of an instance method: a callee -/
def gb_CV (y : MethodName) (cc : ByteArray) (maxL : Nat) (rt : Option FieldType) (n : Nat) : Prop := Cond.instanceMethod y ∈ gU ∧ Cond.selects y.cls y y ∈ gU ∧ Cond.initialized y.cls ∈ gU ∧ Cond.code y cc maxL rt ∈ gU ∧ gb_nm y n ∧ maxL ≤ 80
def gb_CS (y : MethodName) (cc : ByteArray) (maxL : Nat) (rt : Option FieldType) (n : Nat) : Prop := Cond.static y ∈ gU ∧ Cond.initialized y.cls ∈ gU ∧ Cond.code y cc maxL rt ∈ gU ∧ gb_nm y n ∧ maxL ≤ 80
theorem w_callV (O : gb_Ok G X cc nL ret own d) {y : MethodName} {bytes : ByteArray} {maxL d' b ci N idx np : Nat} {rt : Option FieldType} {C : String} {T : u_T} {fs As : List Value} {st0 : List Value} {Q' : Option Value → gb_M → Prop} (hd : decode cc pc = .ok (.invokevirtual idx, 3)) (hlk : Cond.methodLink own idx y ∈ gU) (hy : gb_CV y bytes maxL rt np) (F : Fn G d' y bytes maxL rt (.ref (gb_ad G b) :: As) M Q') (hnp : As.length = np) (hbN : b < gb_N G) (hb : M b = .inr (ci, fs)) (hc : vwCl[ci]? = some (C, T, N)) (hC : y.cls = C) (hst : st0 = As.reverse ++ .ref (gb_ad G b) :: st) (hdd : d' + 1 ≤ d) (hcat : (st.map fun v => v.category).sum ≤ 8) (hn : pc + 3 = n) (k : ∀ (v : Option Value) (M' : gb_M), Q' v M' → Wm G X nL Q n lv (v.toList ++ st) M') : Wm G X nL Q pc lv st0 M := by
  subst hn; subst hC; subst hnp
  intro H locs ls hP hS hl
  have hT : GoodIn gU (wsV own idx y.cls y (Cond.code y bytes maxL rt :: gU)) := gU_goodIn (fun w hw => by
    rcases List.mem_append.mp hw with h | h
    · simp only [List.mem_cons, List.not_mem_nil, or_false] at h
      rcases h with rfl | rfl | rfl | rfl
      · exact hlk
      · exact hy.1
      · exact hy.2.1
      · exact hy.2.2.1
    · rcases List.mem_cons.mp h with rfl | h
      · exact hy.2.2.2.1
      · exact h)
  exact gb_call (va_runV (As := As) (rest := st) ⟨O.1, O.2.1, O.2.2.1, O.2.2.2.1, O.2.2.2.2.1⟩ (F H.size) (cwV As.length O.2.2.2.2.1 hT rfl rfl rfl ⟨rfl, hy.2.2.2.2.1⟩ ⟨Nat.le_trans hdd O.2.2.2.2.2.2.2.2.2.2.1, by have h1 := O.2.2.2.2.2.2.2.2.2.2.2; have h2 : (gb_rm d').locals = 100 * d' := rfl; have h3 := hy.2.2.2.2.2; omega⟩)
    ⟨gb_blind O.2.2.2.2.2.2.2.2.2.1, va_recv O.2.2.2.2.2.2.2.1 hP hc (gb_pl_at hbN hb), gb_pre O hP hS⟩ rfl rfl hl.1 hst (lv_room hcat) hd ⟨Nat.zero_le _, Nat.zero_le _⟩) hS hl k
theorem w_callS (O : gb_Ok G X cc nL ret own d) {y : MethodName} {bytes : ByteArray} {maxL d' idx np : Nat} {rt : Option FieldType} {As : List Value} {st0 : List Value} {Q' : Option Value → gb_M → Prop} (hd : decode cc pc = .ok (.invokestatic idx, 3)) (hlk : Cond.methodLink own idx y ∈ gU) (hy : gb_CS y bytes maxL rt np) (F : Fn G d' y bytes maxL rt As M Q') (hnp : As.length = np) (hst : st0 = As.reverse ++ st) (hdd : d' + 1 ≤ d) (hcat : (st.map fun v => v.category).sum ≤ 8) (hn : pc + 3 = n) (k : ∀ (v : Option Value) (M' : gb_M), Q' v M' → Wm G X nL Q n lv (v.toList ++ st) M') : Wm G X nL Q pc lv st0 M := by
  subst hn; subst hnp
  intro H locs ls hP hS hl
  have hT : GoodIn gU (va_wsS own idx y (Cond.code y bytes maxL rt :: gU)) := gU_goodIn (fun w hw => by
    rcases List.mem_append.mp hw with h | h
    · simp only [List.mem_cons, List.not_mem_nil, or_false] at h
      rcases h with rfl | rfl | rfl
      · exact hlk
      · exact hy.1
      · exact hy.2.1
    · rcases List.mem_cons.mp h with rfl | h
      · exact hy.2.2.1
      · exact h)
  exact gb_call (va_runS (As := As) (rest := st) ⟨O.1, O.2.1, O.2.2.1, O.2.2.2.1, O.2.2.2.2.1⟩ (F H.size) (va_cwS As.length O.2.2.2.2.1 hT rfl rfl rfl hy.2.2.2.1 ⟨Nat.le_trans hdd O.2.2.2.2.2.2.2.2.2.2.1, by have h1 := O.2.2.2.2.2.2.2.2.2.2.2; have h2 : (gb_rm d').locals = 100 * d' := rfl; have h3 := hy.2.2.2.2; omega⟩)
    ⟨gb_blind O.2.2.2.2.2.2.2.2.2.1, gb_pre O hP hS⟩ rfl rfl hl.1 hst (lv_room hcat) hd ⟨Nat.zero_le _, Nat.zero_le _⟩) hS hl k
theorem w_callSN (O : gb_Ok G X cc nL ret own d) {y : MethodName} {bytes : ByteArray} {maxL d' idx np : Nat} {rt : Option FieldType} {host : String} {As : List Value} {st0 : List Value} {Q' : Option Value → gb_M → Prop} (hd : decode cc pc = .ok (.invokestatic idx, 3)) (hN : va_Nw (.methodLinkNest own idx y host) X.2.2.2.1) (hy : gb_CS y bytes maxL rt np) (F : Fn G d' y bytes maxL rt As M Q') (hnp : As.length = np) (hst : st0 = As.reverse ++ st) (hdd : d' + 1 ≤ d) (hcat : (st.map fun v => v.category).sum ≤ 8) (hn : pc + 3 = n) (k : ∀ (v : Option Value) (M' : gb_M), Q' v M' → Wm G X nL Q n lv (v.toList ++ st) M') : Wm G X nL Q pc lv st0 M := by
  subst hn; subst hnp
  intro H locs ls hP hS hl
  have hT : GoodIn gU (Cond.code y bytes maxL rt :: gU) := gU_goodIn (fun w hw => by
    rcases List.mem_cons.mp hw with rfl | h
    · exact hy.2.2.1
    · exact h)
  exact gb_call (va_runSN (As := As) (rest := st) ⟨O.1, O.2.1, O.2.2.1, O.2.2.2.1, O.2.2.2.2.1⟩ (F H.size) ⟨va_cnB As.length O.2.2.2.2.1 hT rfl rfl rfl hN (O.2.2.2.2.1 _ hy.2.1) hy.2.2.2.1 ⟨Nat.le_trans hdd O.2.2.2.2.2.2.2.2.2.2.1, by have h1 := O.2.2.2.2.2.2.2.2.2.2.2; have h2 : (gb_rm d').locals = 100 * d' := rfl; have h3 := hy.2.2.2.2; omega⟩, O.2.2.2.2.1 _ hy.1, trivial⟩
    ⟨gb_blind O.2.2.2.2.2.2.2.2.2.1, gb_pre O hP hS⟩ rfl rfl hl.1 hst (lv_room hcat) hd ⟨Nat.zero_le _, Nat.zero_le _⟩) hS hl k
end GBL
