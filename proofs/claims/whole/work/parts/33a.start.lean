/-! THE CLAIM OUT OF ONE WALK OF THE LAW'S BODY. Your part is whole_start (and what it stands on); all else here is the same for every law, but numbers. -/
def R_law : String := "GuiltBellLaw"
def lw_P (b : Addr) (xs : List Int32) (args : Array Value) (s : State) : Prop := args = #[.ref b] ∧ s.IntsAt b xs ∧ xs.length ≤ 320 ∧ (Jvm.Cond.and given_1 narrow_1).before args s = true
def lw_Q (_ : Array Value) (s : State) (o : Outcome) (t : State) : Prop := o = .returned (some (.int 1)) ∧ Framed s o t [] 600000 7302250
def lw_Z (below : List Frame) (a : Array Value) (s : State) : State → Prop := fun t => ∃ o, t.status = .running ∧ Ended t below o ∧ lw_Q a s o t
/-- the law's own end, with 1 on the stack, nothing written that was there before, its room as the claim has it -/
theorem lw_ret {p : Program} {l : Launch} {e : Env} {s : State} {m : MethodId} {below : List Frame} {meth : Method} {c : Code} {b : Nat} (hx : p.tables.exec = Jvm.exec) (hb : c.code = code) (hr : meth.sig.returnType = ret) (hlocks : meth.locks = false) {pc : Nat} {H : Heap} {ls : Array Slot} (hdg : decode code pc = .ok (.ireturn, 1)) : W p l e room_1 s m #[Value.ref b] below meth c H [] 600000 7302250 (lw_Z below #[Value.ref b] s) (F0 m pc ls [.int 1]) := by
  intro T hT X
  obtain ⟨fs, hret, hrun, hended, hW, hframe⟩ := X.leave (v := some (.int 1)) (hlocks := hlocks) (fun h => by rw [hr] at h; cases h)
  have hmeth' : T.vm.method? m = some meth := X.method'
  refine ⟨T.setFrames fs, ?_, .returned (some (.int 1)), hrun, hended, rfl, ⟨_, rfl⟩, hW, hframe⟩
  jvm_step X.here [X.here.top, hx, hb, hdg, hmeth', hr, ret, narrow_b1]
  (try refine ⟨rfl, ?_⟩); (try refine ⟨rfl, ?_⟩)
  first | (intro acts; rw [hret _ acts rfl rfl rfl]) | rw [hret _ _ rfl rfl rfl]
  exact Steps.refl _
/-- what holds at the law's entry: the machine, the code, the tables' words (any of lw_tbl by 'hts w (by decide +kernel)'), the script of L ints xs at the cell b, what the Statement gives of the start (any of its parts by flat_of_before) -/
def lw_At (p : Program) (s : State) (m : MethodId) (meth : Method) (c : Code) (b L : Nat) (xs : Nat → Int32) : Prop :=
  p.tables.exec = Jvm.exec ∧ c.code = code ∧ meth.sig.returnType = ret ∧ c.maxLocals = 4 ∧ s.vm.findClass R_law = some m.cls ∧ (∀ w ∈ lw_tbl, w.before #[Value.ref b] s = true) ∧ va_X b L xs s s.heap ∧ b < s.heap.size ∧ meth.locks = false ∧ (Jvm.Cond.and given_1 narrow_1).before #[Value.ref b] s = true
/-! AT THE START: the classes, the arrays' classes, the statics, the texts -/
theorem lt_1 {w : Cond} (i : Nat) (h : tables_1_1[i]? = some w) : w ∈ lw_tbl := List.mem_append_right _ (List.mem_append_left _ (List.mem_of_getElem? h))
theorem lt_2 {w : Cond} (i : Nat) (h : tables_1_2[i]? = some w) : w ∈ lw_tbl := List.mem_append_right _ (List.mem_append_right _ (List.mem_append_left _ (List.mem_of_getElem? h)))
theorem lt_3 {w : Cond} (i : Nat) (h : tables_1_3[i]? = some w) : w ∈ lw_tbl := List.mem_append_right _ (List.mem_append_right _ (List.mem_append_right _ (List.mem_append_left _ (List.mem_of_getElem? h))))
theorem gU_tbl {w : Cond} (h : w ∈ gU) : w ∈ lw_tbl := (List.mem_filter.mp h).1
theorem st_arr {s : State} {av : Array Value} {ty : FieldType} (hty : ∀ C, ty ≠ .object C) (h : (Cond.arrayClass ty).before av s = true) : ∃ cA : ClassId, ArrOfT s cA ty ∧ va_RA s cA ty := by
  obtain ⟨cA, kA, comp, h1, h2, h3⟩ := Cond.arrayClass_spec h
  refine ⟨cA, fun n z => ⟨fun k h => (by cases h), kA, h2, comp, h3⟩, ?_⟩
  cases ty with
  | object C => exact absurd rfl (hty C)
  | _ => exact h1
theorem st_arrq {s : State} {C : String} (h : va_AO C s) : ∃ cA : ClassId, ArrOfT s cA (.object C) ∧ va_RA s cA (.object C) := by
  obtain ⟨comp, cA, kA, h1, h2, h3, h4, h5⟩ := Cond.arrayOver_spec h
  exact ⟨cA, fun n z => ⟨fun k h => (by cases h), kA, h3, comp, h4⟩, kA, comp, h3, h4, h1, h5⟩
theorem st_cls {s : State} {av : Array Value} (hts : ∀ w ∈ gU, w.before av s = true) : ∃ (dC : Nat → ClassId) (dI : Nat → Nat → Nat), ∀ (k : Nat) (q : vw_C), vwCl[k]? = some q → u_Kn s q.1 q.2.1 q.2.2 (dC k) (dI k) := by
  have key : ∀ k : Nat, ∃ p : ClassId × (Nat → Nat), ∀ q : vw_C, vwCl[k]? = some q → u_Kn s q.1 q.2.1 q.2.2 p.1 p.2 := by
    intro k
    match k with
    | 0 =>
      obtain ⟨cC, iS, h⟩ := u_known (C := RX0) (T := TX0) (N := 15) (n := 15) hts uX0 (hts _ un_X0)
      exact ⟨(cC, iS), fun q hq => by cases hq; exact h⟩
    | 1 =>
      obtain ⟨cC, iS, h⟩ := u_known (C := RX1) (T := TX1) (N := 3) (n := 3) hts uX1 (hts _ un_X1)
      exact ⟨(cC, iS), fun q hq => by cases hq; exact h⟩
    | 2 =>
      obtain ⟨cC, iS, h⟩ := u_known (C := RX2) (T := TX2) (N := 7) (n := 7) hts uX2 (hts _ un_X2)
      exact ⟨(cC, iS), fun q hq => by cases hq; exact h⟩
    | 3 =>
      obtain ⟨cC, iS, h⟩ := u_known (C := RX3) (T := TX3) (N := 4) (n := 4) hts uX3 (hts _ un_X3)
      exact ⟨(cC, iS), fun q hq => by cases hq; exact h⟩
    | 4 =>
      obtain ⟨cC, iS, h⟩ := u_known (C := RX4) (T := TX4) (N := 6) (n := 6) hts uX4 (hts _ un_X4)
      exact ⟨(cC, iS), fun q hq => by cases hq; exact h⟩
    | 5 =>
      obtain ⟨cC, iS, h⟩ := u_known (C := RX5) (T := TX5) (N := 7) (n := 7) hts uX5 (hts _ un_X5)
      exact ⟨(cC, iS), fun q hq => by cases hq; exact h⟩
    | 6 =>
      obtain ⟨cC, iS, h⟩ := u_known (C := RX6) (T := TX6) (N := 10) (n := 10) hts uX6 (hts _ un_X6)
      exact ⟨(cC, iS), fun q hq => by cases hq; exact h⟩
    | 7 =>
      obtain ⟨cC, iS, h⟩ := u_known (C := RX7) (T := TX7) (N := 32) (n := 32) hts uX7 (hts _ un_X7)
      exact ⟨(cC, iS), fun q hq => by cases hq; exact h⟩
    | k + 8 =>
      exact ⟨(default, fun _ => 0), fun q hq => by simp [vwCl] at hq⟩
  obtain ⟨f, hf⟩ := Classical.axiomOfChoice key
  exact ⟨fun k => (f k).1, fun k => (f k).2, hf⟩
theorem st_cW {s : State} {av : Array Value} (hts : ∀ w ∈ lw_tbl, w.before av s = true) : cW s :=
  ⟨va_Nw.of rfl (hts _ (lt_1 27 (by decide +kernel))), va_Nw.of rfl (hts _ (lt_1 74 (by decide +kernel))), va_Nw.of rfl (hts _ (lt_1 93 (by decide +kernel))), va_Nw.of rfl (hts _ (lt_1 124 (by decide +kernel))), va_Nw.of rfl (hts _ (lt_1 156 (by decide +kernel))), va_Nw.of rfl (hts _ (lt_1 217 (by decide +kernel))), va_Nw.of rfl (hts _ (lt_1 129 (by decide +kernel))), va_AO.of (hts _ (lt_1 213 (by decide +kernel))), va_AO.of (hts _ (lt_1 215 (by decide +kernel)))⟩
def gb_tm (i : Nat) : Term := .string "GuiltBell$Scribe" ([78, 87, 92, 97, 150, 152, 154, 156, 158, 160, 162, 164].getD i 0)
abbrev gb_prc : Cond := Jvm.Cond.and given_1 narrow_1
abbrev gb_tP : Term := .static "GuiltBell" "PITCH" "[I"
abbrev gb_tH : Term := .static "GuiltBell" "HIGHEST_TRAIT" "[I"
def gb_fl : List Cond := flatC gb_prc
theorem fl_ex : ∀ i : Nat, i < 12 → Cond.exactly (gb_tm i) "java/lang/String" ∈ gb_fl := by decide +kernel
theorem fl_co : ∀ i : Nat, i < 12 → Cond.eq (.field (gb_tm i) "java/lang/String" "coder" "B") (.int 0) ∈ gb_fl := by decide +kernel
theorem fl_ar : ∀ i : Nat, i < 12 → Cond.arrayOf (.field (gb_tm i) "java/lang/String" "value" "[B") .byte ∈ gb_fl := by decide +kernel
theorem fl_le : ∀ i : Nat, i < 12 → Cond.eq (.length (.field (gb_tm i) "java/lang/String" "value" "[B")) (.int (Int32.ofNat (gb_len.getD i 0))) ∈ gb_fl := by decide +kernel
theorem fl_el : ∀ i : Nat, i < 12 → ∀ j : Nat, j < gb_len.getD i 0 → Cond.eq (.elem (.field (gb_tm i) "java/lang/String" "value" "[B") (.int (Int32.ofNat j))) (.int ((gb_byt.getD i []).getD j 0)) ∈ gb_fl := by decide +kernel
theorem fl_ne : ∀ i : Nat, i < 12 → ∀ j : Nat, j < 12 → i ≠ j → (Cond.not (Cond.eq (gb_tm i) (gb_tm j)) ∈ gb_fl ∨ Cond.not (Cond.eq (gb_tm j) (gb_tm i)) ∈ gb_fl) := by decide +kernel
theorem fl_p : Cond.arrayOf gb_tP .int ∈ gb_fl ∧ Cond.eq (.length gb_tP) (.int (Int32.ofNat 3)) ∈ gb_fl ∧ (∀ j : Nat, j < 3 → Cond.eq (.elem gb_tP (.int (Int32.ofNat j))) (.int (nI (gb_pit j))) ∈ gb_fl) := by decide +kernel
theorem fl_h : Cond.arrayOf gb_tH .int ∈ gb_fl ∧ Cond.eq (.length gb_tH) (.int (Int32.ofNat 6)) ∈ gb_fl ∧ (∀ j : Nat, j < 6 → Cond.eq (.elem gb_tH (.int (Int32.ofNat j))) (.int (nI (gb_hig j))) ∈ gb_fl) := by decide +kernel
theorem fl_s : Cond.eq (.static "java/lang/String" "COMPACT_STRINGS" "Z") (.int 1) ∈ gb_fl ∧ Cond.isRef (.static "jdk/internal/util/Preconditions" "SIOOBE_FORMATTER" "Ljava/util/function/BiFunction;") ∈ gb_fl := by decide +kernel
theorem st_Z {s : State} {av : Array Value} (hts : ∀ w ∈ lw_tbl, w.before av s = true) (hgv : gb_prc.before av s = true) : ∃ ad : Nat → Nat, ∀ ad' : Nat → Nat, (∀ k, 61 ≤ k → ad' k = ad k) → gb_Zs ad' (fun q => s.heap.size ≤ q) s := by
  have hf : ∀ w ∈ gb_fl, w.before av s = true := flat_of_before gb_prc hgv
  have hA : ∀ a : Nat, a < s.heap.size → ¬ (fun q : Nat => s.heap.size ≤ q) a := fun a h => Nat.not_le.mpr h
  obtain ⟨kK, kV, hS, hK⟩ := vk_Sof (N := 12) (tm := gb_tm) (len := gb_len) (byt := gb_byt) (A := fun q : Nat => s.heap.size ≤ q) (by decide) (fun i hi => hf _ (fl_ex i hi)) (fun i hi => hf _ (fl_co i hi)) (fun i hi => hf _ (fl_ar i hi)) (fun i hi => hf _ (fl_le i hi)) (fun i hi j hj => hf _ (fl_el i hi j hj)) (fun i j hi hj e => (fl_ne i hi j hj e).imp (fun h => hf _ h) (fun h => hf _ h)) hA
  obtain ⟨tP, eP, hP⟩ := va_Tof (f := fun j => .int (nI (gb_pit j))) (A := fun q : Nat => s.heap.size ≤ q) (by decide) (hf _ fl_p.1) (va_eqt (hf _ fl_p.2.1)) (fun j hj => va_eqt (hf _ (fl_p.2.2 j hj))) hA
  obtain ⟨tH, eH, hH⟩ := va_Tof (f := fun j => .int (nI (gb_hig j))) (A := fun q : Nat => s.heap.size ≤ q) (by decide) (hf _ fl_h.1) (va_eqt (hf _ fl_h.2.1)) (fun j hj => va_eqt (hf _ (fl_h.2.2 j hj))) hA
  refine ⟨fun k => if k = 61 then tP else if k = 62 then tH else if k < 75 then kK (k - 63) else kV (k - 75), fun ad' h => ?_⟩
  have e61 : ad' 61 = tP := h 61 (by omega)
  have e62 : ad' 62 = tH := h 62 (by omega)
  have eK : ∀ i, i < 12 → ad' (63 + i) = kK i := fun i hi => by
    rw [h (63 + i) (by omega)]
    show (if 63 + i = 61 then tP else if 63 + i = 62 then tH else if 63 + i < 75 then kK (63 + i - 63) else kV (63 + i - 75)) = kK i
    rw [if_neg (by omega), if_neg (by omega), if_pos (by omega), show 63 + i - 63 = i by omega]
  have eV : ∀ i, i < 12 → ad' (75 + i) = kV i := fun i hi => by
    rw [h (75 + i) (by omega)]
    show (if 75 + i = 61 then tP else if 75 + i = 62 then tH else if 75 + i < 75 then kK (75 + i - 63) else kV (75 + i - 75)) = kV i
    rw [if_neg (by omega), if_neg (by omega), if_neg (by omega), show 75 + i - 75 = i by omega]
  have hS' : vk_S 12 gb_len gb_byt (fun i => ad' (63 + i)) (fun i => ad' (75 + i)) (fun q : Nat => s.heap.size ≤ q) s s.heap := by
    refine ⟨fun i hi => ?_, fun i j hi hj e => hS.2 i j hi hj ?_⟩
    · have hh := hS.1 i hi
      rw [← eK i hi, ← eV i hi] at hh
      exact hh
    · rw [← eK i hi, ← eK j hj]; exact e
  have gi := hts _ (lt_1 (w := Cond.initialized "GuiltBell") 1 (by decide +kernel))
  have hr : ∀ i, i < 12 → (gb_tm i).eval av s none [] s = some (.ref (ad' (63 + i))) := fun i hi => by rw [eK i hi]; exact hK i hi
  unfold gb_Zs
  rw [e61, e62]
  exact ⟨va_Zof (hts _ (lt_3 45 (by decide +kernel))) gi eP hA, hP, va_Zof (hts _ (lt_2 171 (by decide +kernel))) gi eH hA, hH, va_Zof (hts _ (lt_2 108 (by decide +kernel))) (hts _ (lt_1 10 (by decide +kernel))) (va_eqi (hf _ fl_s.1)) hA, va_Zqof (hts _ (lt_2 124 (by decide +kernel))) (hts _ (lt_1 12 (by decide +kernel))) (hf _ fl_s.2) hA, hS', vk_R.of (hts _ (lt_2 176 (by decide +kernel))) (hr 0 (by decide)), vk_R.of (hts _ (lt_2 188 (by decide +kernel))) (hr 1 (by decide)), vk_R.of (hts _ (lt_2 193 (by decide +kernel))) (hr 2 (by decide)), vk_R.of (hts _ (lt_2 198 (by decide +kernel))) (hr 3 (by decide)), vk_R.of (hts _ (lt_2 94 (by decide +kernel))) (hr 4 (by decide)), vk_R.of (hts _ (lt_2 147 (by decide +kernel))) (hr 5 (by decide)), vk_R.of (hts _ (lt_2 148 (by decide +kernel))) (hr 6 (by decide)), vk_R.of (hts _ (lt_2 149 (by decide +kernel))) (hr 7 (by decide)), vk_R.of (hts _ (lt_2 165 (by decide +kernel))) (hr 8 (by decide)), vk_R.of (hts _ (lt_2 166 (by decide +kernel))) (hr 9 (by decide)), vk_R.of (hts _ (lt_2 167 (by decide +kernel))) (hr 10 (by decide)), vk_R.of (hts _ (lt_2 168 (by decide +kernel))) (hr 11 (by decide)), va_Nw.of rfl (hts _ (lt_3 44 (by decide +kernel))), va_Nw.of rfl (hts _ (lt_2 170 (by decide +kernel))), va_Nw.of rfl (hts _ (lt_3 210 (by decide +kernel))), va_Nw.of rfl (hts _ (lt_2 185 (by decide +kernel))), va_Nw.of rfl (hts _ (lt_2 169 (by decide +kernel)))⟩
