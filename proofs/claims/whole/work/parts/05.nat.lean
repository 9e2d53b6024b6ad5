/-! ROWS ON SMALL NATURALS: an int that is nI n -/
theorem gb_arr {cA : ClassId} {z : Nat} {r r' : Nat → Int32} (h : ∀ j, j < z → r j = r' j) : vp_cell cA (z, .inl r) = vp_cell cA (z, .inl r') := by
  rw [vp_cell_i, vp_cell_i]
  unfold arrV
  congr 1
  apply Array.ext
  · simp
  · intro i h1 h2
    have hz : i < z := by simpa using h1
    simp [h i hz]
/-- an array's contents count below its length only -/
def gb_same (M M' : gb_M) : Prop := ∀ k : Nat, M k = M' k ∨ ∃ (cA : ClassId) (z : Nat) (r r' : Nat → Int32), M k = .inl (cA, z, .inl r) ∧ M' k = .inl (cA, z, .inl r') ∧ ∀ j, j < z → r j = r' j
theorem Wm.cells {G : gb_G} {X : gb_X} {nL : Nat} {Q : Option Value → gb_M → Prop} {pc : Nat} {lv : List (Nat × Value)} {st : List Value} {M M' : gb_M} (h : gb_same M M') (k : Wm G X nL Q pc lv st M') : Wm G X nL Q pc lv st M := by
  intro H locs ls hP hS hl
  refine k H locs ls (fun i q hi => ?_) hS hl
  have hN : i < gb_N G := by have := (List.getElem?_eq_some_iff.mp hi).1; simpa [gb_pl] using this
  rw [gb_pl_get hN] at hi
  cases hi
  have h1 := hP i _ (gb_pl_get hN)
  rcases h i with e | ⟨cA, z, r, r', e1, e2, e3⟩
  · rw [← e]; exact h1
  · rw [e1] at h1
    rw [e2]
    have h2 : H[gb_ad G i]? = some (vp_cell cA (z, .inl r)) := h1
    rw [gb_arr e3] at h2
    exact h2
theorem Wm.cell {G : gb_G} {X : gb_X} {nL : Nat} {Q : Option Value → gb_M → Prop} {pc : Nat} {lv : List (Nat × Value)} {st : List Value} {M : gb_M} {a z : Nat} {cA : ClassId} {r : Nat → Int32} (r' : Nat → Int32) (h : ∀ j, j < z → r j = r' j) (k : Wm G X nL Q pc lv st (va_up M a (.inl (cA, z, .inl r')))) : Wm G X nL Q pc lv st (va_up M a (.inl (cA, z, .inl r))) := by
  refine Wm.cells (fun k => ?_) k
  by_cases e : k = a
  · subst e
    exact Or.inr ⟨cA, z, r, r', va_up_self _ _ _, va_up_self _ _ _, h⟩
  · exact Or.inl (by rw [va_up_ne _ _ e, va_up_ne _ _ e])
def upN (r : Nat → Nat) (i v : Nat) : Nat → Nat := fun k => if k = i then v else r k
theorem upN_self (r : Nat → Nat) (i v : Nat) : upN r i v i = v := by simp [upN]
theorem upN_ne (r : Nat → Nat) {i k : Nat} (v : Nat) (h : k ≠ i) : upN r i v k = r k := by simp [upN, h]
theorem upd_nI (r : Nat → Nat) (i v : Nat) : upd (fun k => nI (r k)) i (nI v) = fun k => nI (upN r i v k) := by
  funext k
  simp only [upd, upN]
  split <;> rfl
/-- an int array of small naturals; an int array; a boolean array -/
def gI (G : gb_G) : ClassId := (G.2.2.1.getD 0 (default, .int)).1
def gZ (G : gb_G) : ClassId := (G.2.2.1.getD 1 (default, .boolean)).1
def gS (G : gb_G) : ClassId := (G.2.2.1.getD 2 (default, .int)).1
def gT (G : gb_G) : ClassId := (G.2.2.1.getD 3 (default, .int)).1
def IN (G : gb_G) (z : Nat) (r : Nat → Nat) : va_E := .inl (gI G, z, .inl (fun k => nI (r k)))
def IA (G : gb_G) (z : Nat) (r : Nat → Int32) : va_E := .inl (gI G, z, .inl r)
def bI (b : Bool) : Int32 := if b = true then 1 else 0
def ZB (G : gb_G) (z : Nat) (r : Nat → Bool) : va_E := .inl (gZ G, z, .inl (fun k => bI (r k)))
theorem bI_nar (b : Bool) : narrow .boolean (.int (bI b)) = .int (bI b) := by cases b <;> decide +kernel
theorem bI_fit (b : Bool) : fits .boolean (.int (bI b)) = true := by cases b <;> decide +kernel
theorem bI_0 {b : Bool} : bI b = 0 ↔ b = false := by cases b <;> decide
theorem bI_vn (b : Bool) : vp_nar .boolean (bI b) = bI b := by cases b <;> decide +kernel
theorem bI_nI (b : Bool) : bI b = nI (if b = true then 1 else 0) := by cases b <;> rfl
/-- the array classes of the run's table -/
def gb_ty (G : gb_G) : Prop := G.2.2.1[0]? = some (gI G, .int) ∧ G.2.2.1[1]? = some (gZ G, .boolean) ∧ G.2.2.1[2]? = some (gS G, .object RX3) ∧ G.2.2.1[3]? = some (gT G, .object RX5)
section GBN
variable {G : gb_G} {X : gb_X} {cc : ByteArray} {nL : Nat} {ret : Option FieldType} {own : String} {d : Nat} {Q : Option Value → gb_M → Prop} {pc n : Nat} {lv lv' : List (Nat × Value)} {st : List Value} {M : gb_M}
theorem w_top {x : Int32} (y : Int32) (h : x = y) (k : Wm G X nL Q pc lv (.int y :: st) M) : Wm G X nL Q pc lv (.int x :: st) M := by
  rw [h]; exact k
theorem w_topv {x : Value} (y : Value) (h : x = y) (k : Wm G X nL Q pc lv (y :: st) M) : Wm G X nL Q pc lv (x :: st) M := by
  rw [h]; exact k
theorem w_iaddN (O : gb_Ok G X cc nL ret own d) {x y : Nat} (hd : decode cc pc = .ok (.iadd, 1))  (hn : pc + 1 = n) (k : Wm G X nL Q n lv (.int (nI (x + y)) :: st) M) : Wm G X nL Q pc lv (.int (nI y) :: .int (nI x) :: st) M :=
  w_iadd O hd hn (w_top _ (nI_add x y) k)
theorem w_imulN (O : gb_Ok G X cc nL ret own d) {x y : Nat} (hd : decode cc pc = .ok (.imul, 1))  (hn : pc + 1 = n) (k : Wm G X nL Q n lv (.int (nI (x * y)) :: st) M) : Wm G X nL Q pc lv (.int (nI y) :: .int (nI x) :: st) M :=
  w_imul O hd hn (w_top _ (pk_mul x y) k)
theorem w_isubN (O : gb_Ok G X cc nL ret own d) {x y : Nat} (hd : decode cc pc = .ok (.isub, 1)) (h1 : y ≤ x) (hn : pc + 1 = n) (k : Wm G X nL Q n lv (.int (nI (x - y)) :: st) M) : Wm G X nL Q pc lv (.int (nI y) :: .int (nI x) :: st) M :=
  w_isub O hd hn (w_top _ (pk_sub h1) k)
theorem w_idivN (O : gb_Ok G X cc nL ret own d) {x y : Nat} (hd : decode cc pc = .ok (.idiv, 1)) (h1 : x < 2 ^ 31) (h2 : 0 < y) (h3 : y < 2 ^ 31) (hn : pc + 1 = n) (k : Wm G X nL Q n lv (.int (nI (x / y)) :: st) M) : Wm G X nL Q pc lv (.int (nI y) :: .int (nI x) :: st) M :=
  w_idiv O hd (nI_ne0 h2 h3) hn (w_top _ (pk_div h1 h2 h3) k)
theorem w_iremN (O : gb_Ok G X cc nL ret own d) {x y : Nat} (hd : decode cc pc = .ok (.irem, 1)) (h1 : x < 2 ^ 31) (h2 : 0 < y) (h3 : y < 2 ^ 31) (hn : pc + 1 = n) (k : Wm G X nL Q n lv (.int (nI (x % y)) :: st) M) : Wm G X nL Q pc lv (.int (nI y) :: .int (nI x) :: st) M :=
  w_irem O hd (nI_ne0 h2 h3) hn (w_top _ (pk_rem h1 h2 h3) k)
theorem w_icmp_eqN (O : gb_Ok G X cc nL ret own d) {x y : Nat} {off : Int} {tgt : Nat} (hd : decode cc pc = .ok (.if_icmp .eq off, 3)) (hx : x < 2 ^ 31) (hy : y < 2 ^ 31) (ht : (pc : Int) + off = (tgt : Int)) (hn : pc + 3 = n) (kt : x = y → Wm G X nL Q tgt lv st M) (kf : ¬ x = y → Wm G X nL Q n lv st M) : Wm G X nL Q pc lv (.int (nI y) :: .int (nI x) :: st) M :=
  w_icmp_eq O hd ht hn (fun h => kt ((nI_eq hx hy).mp h)) (fun h => kf (fun e => h ((nI_eq hx hy).mpr e)))
theorem w_icmp_neN (O : gb_Ok G X cc nL ret own d) {x y : Nat} {off : Int} {tgt : Nat} (hd : decode cc pc = .ok (.if_icmp .ne off, 3)) (hx : x < 2 ^ 31) (hy : y < 2 ^ 31) (ht : (pc : Int) + off = (tgt : Int)) (hn : pc + 3 = n) (kt : ¬ x = y → Wm G X nL Q tgt lv st M) (kf : x = y → Wm G X nL Q n lv st M) : Wm G X nL Q pc lv (.int (nI y) :: .int (nI x) :: st) M :=
  w_icmp_ne O hd ht hn (fun h => kt (fun e => h ((nI_eq hx hy).mpr e))) (fun h => kf ((nI_eq hx hy).mp (by first | exact h | exact Classical.byContradiction h)))
theorem w_icmp_ltN (O : gb_Ok G X cc nL ret own d) {x y : Nat} {off : Int} {tgt : Nat} (hd : decode cc pc = .ok (.if_icmp .lt off, 3)) (hx : x < 2 ^ 31) (hy : y < 2 ^ 31) (ht : (pc : Int) + off = (tgt : Int)) (hn : pc + 3 = n) (kt : x < y → Wm G X nL Q tgt lv st M) (kf : y ≤ x → Wm G X nL Q n lv st M) : Wm G X nL Q pc lv (.int (nI y) :: .int (nI x) :: st) M :=
  w_icmp_lt O hd ht hn (fun h => kt ((nI_ltI hx hy).mp h)) (fun h => kf (by have := mt (nI_ltI hx hy).mpr h; omega))
theorem w_icmp_geN (O : gb_Ok G X cc nL ret own d) {x y : Nat} {off : Int} {tgt : Nat} (hd : decode cc pc = .ok (.if_icmp .ge off, 3)) (hx : x < 2 ^ 31) (hy : y < 2 ^ 31) (ht : (pc : Int) + off = (tgt : Int)) (hn : pc + 3 = n) (kt : y ≤ x → Wm G X nL Q tgt lv st M) (kf : x < y → Wm G X nL Q n lv st M) : Wm G X nL Q pc lv (.int (nI y) :: .int (nI x) :: st) M :=
  w_icmp_ge O hd ht hn (fun h => kt ((nI_leI hy hx).mp h)) (fun h => kf (by have := mt (nI_leI hy hx).mpr h; omega))
theorem w_icmp_gtN (O : gb_Ok G X cc nL ret own d) {x y : Nat} {off : Int} {tgt : Nat} (hd : decode cc pc = .ok (.if_icmp .gt off, 3)) (hx : x < 2 ^ 31) (hy : y < 2 ^ 31) (ht : (pc : Int) + off = (tgt : Int)) (hn : pc + 3 = n) (kt : y < x → Wm G X nL Q tgt lv st M) (kf : x ≤ y → Wm G X nL Q n lv st M) : Wm G X nL Q pc lv (.int (nI y) :: .int (nI x) :: st) M :=
  w_icmp_gt O hd ht hn (fun h => kt ((nI_ltI hy hx).mp h)) (fun h => kf (by have := mt (nI_ltI hy hx).mpr h; omega))
theorem w_icmp_leN (O : gb_Ok G X cc nL ret own d) {x y : Nat} {off : Int} {tgt : Nat} (hd : decode cc pc = .ok (.if_icmp .le off, 3)) (hx : x < 2 ^ 31) (hy : y < 2 ^ 31) (ht : (pc : Int) + off = (tgt : Int)) (hn : pc + 3 = n) (kt : x ≤ y → Wm G X nL Q tgt lv st M) (kf : y < x → Wm G X nL Q n lv st M) : Wm G X nL Q pc lv (.int (nI y) :: .int (nI x) :: st) M :=
  w_icmp_le O hd ht hn (fun h => kt ((nI_leI hx hy).mp h)) (fun h => kf (by have := mt (nI_leI hx hy).mpr h; omega))
theorem w_if_eqN (O : gb_Ok G X cc nL ret own d) {x : Nat} {off : Int} {tgt : Nat} (hd : decode cc pc = .ok (.ifCond .eq off, 3)) (hx : x < 2 ^ 31) (ht : (pc : Int) + off = (tgt : Int)) (hn : pc + 3 = n) (kt : x = 0 → Wm G X nL Q tgt lv st M) (kf : ¬ x = 0 → Wm G X nL Q n lv st M) : Wm G X nL Q pc lv (.int (nI x) :: st) M := by
  refine w_if_eq O hd ht hn (fun h => kt ?_) (fun h => kf ?_)
  all_goals (rw [← nI_0] at h; simp only [nI_eq hx (show 0 < 2 ^ 31 by decide), nI_ltI (show 0 < 2 ^ 31 by decide) hx, nI_leI hx (show 0 < 2 ^ 31 by decide), nI_leI (show 0 < 2 ^ 31 by decide) hx, ne_eq, Classical.not_not] at h; omega)
theorem w_if_neN (O : gb_Ok G X cc nL ret own d) {x : Nat} {off : Int} {tgt : Nat} (hd : decode cc pc = .ok (.ifCond .ne off, 3)) (hx : x < 2 ^ 31) (ht : (pc : Int) + off = (tgt : Int)) (hn : pc + 3 = n) (kt : ¬ x = 0 → Wm G X nL Q tgt lv st M) (kf : x = 0 → Wm G X nL Q n lv st M) : Wm G X nL Q pc lv (.int (nI x) :: st) M := by
  refine w_if_ne O hd ht hn (fun h => kt ?_) (fun h => kf ?_)
  all_goals (rw [← nI_0] at h; simp only [nI_eq hx (show 0 < 2 ^ 31 by decide), nI_ltI (show 0 < 2 ^ 31 by decide) hx, nI_leI hx (show 0 < 2 ^ 31 by decide), nI_leI (show 0 < 2 ^ 31 by decide) hx, ne_eq, Classical.not_not] at h; omega)
theorem w_if_gtN (O : gb_Ok G X cc nL ret own d) {x : Nat} {off : Int} {tgt : Nat} (hd : decode cc pc = .ok (.ifCond .gt off, 3)) (hx : x < 2 ^ 31) (ht : (pc : Int) + off = (tgt : Int)) (hn : pc + 3 = n) (kt : 0 < x → Wm G X nL Q tgt lv st M) (kf : x = 0 → Wm G X nL Q n lv st M) : Wm G X nL Q pc lv (.int (nI x) :: st) M := by
  refine w_if_gt O hd ht hn (fun h => kt ?_) (fun h => kf ?_)
  all_goals (rw [← nI_0] at h; simp only [nI_eq hx (show 0 < 2 ^ 31 by decide), nI_ltI (show 0 < 2 ^ 31 by decide) hx, nI_leI hx (show 0 < 2 ^ 31 by decide), nI_leI (show 0 < 2 ^ 31 by decide) hx, ne_eq, Classical.not_not] at h; omega)
theorem w_if_leN (O : gb_Ok G X cc nL ret own d) {x : Nat} {off : Int} {tgt : Nat} (hd : decode cc pc = .ok (.ifCond .le off, 3)) (hx : x < 2 ^ 31) (ht : (pc : Int) + off = (tgt : Int)) (hn : pc + 3 = n) (kt : x = 0 → Wm G X nL Q tgt lv st M) (kf : 0 < x → Wm G X nL Q n lv st M) : Wm G X nL Q pc lv (.int (nI x) :: st) M := by
  refine w_if_le O hd ht hn (fun h => kt ?_) (fun h => kf ?_)
  all_goals (rw [← nI_0] at h; simp only [nI_eq hx (show 0 < 2 ^ 31 by decide), nI_ltI (show 0 < 2 ^ 31 by decide) hx, nI_leI hx (show 0 < 2 ^ 31 by decide), nI_leI (show 0 < 2 ^ 31 by decide) hx, ne_eq, Classical.not_not] at h; omega)
theorem w_if_ltN (O : gb_Ok G X cc nL ret own d) {x : Nat} {off : Int} (hd : decode cc pc = .ok (.ifCond .lt off, 3)) (hx : x < 2 ^ 31) {tgt : Nat} (ht : (pc : Int) + off = (tgt : Int)) (hn : pc + 3 = n) (kf : Wm G X nL Q n lv st M) : Wm G X nL Q pc lv (.int (nI x) :: st) M :=
  w_if_lt O hd ht hn (fun h => absurd h (nI_pos hx)) (fun _ => kf)
theorem w_if_geN (O : gb_Ok G X cc nL ret own d) {x : Nat} {off : Int} (hd : decode cc pc = .ok (.ifCond .ge off, 3)) (hx : x < 2 ^ 31) {tgt : Nat} (ht : (pc : Int) + off = (tgt : Int)) (hn : pc + 3 = n) (kt : Wm G X nL Q tgt lv st M) : Wm G X nL Q pc lv (.int (nI x) :: st) M :=
  w_if_ge O hd ht hn (fun _ => kt) (fun h => absurd (nI_pos' hx) h)
theorem w_if_eqB (O : gb_Ok G X cc nL ret own d) {b : Bool} {off : Int} {tgt : Nat} (hd : decode cc pc = .ok (.ifCond .eq off, 3)) (ht : (pc : Int) + off = (tgt : Int)) (hn : pc + 3 = n) (kt : b = false → Wm G X nL Q tgt lv st M) (kf : b = true → Wm G X nL Q n lv st M) : Wm G X nL Q pc lv (.int (bI b) :: st) M :=
  w_if_eq O hd ht hn (fun h => kt (bI_0.mp h)) (fun h => kf (by cases b; exact absurd (bI_0.mpr rfl) h; rfl))
theorem w_if_neB (O : gb_Ok G X cc nL ret own d) {b : Bool} {off : Int} {tgt : Nat} (hd : decode cc pc = .ok (.ifCond .ne off, 3)) (ht : (pc : Int) + off = (tgt : Int)) (hn : pc + 3 = n) (kt : b = true → Wm G X nL Q tgt lv st M) (kf : b = false → Wm G X nL Q n lv st M) : Wm G X nL Q pc lv (.int (bI b) :: st) M :=
  w_if_ne O hd ht hn (fun h => kt (by cases b; exact absurd (bI_0.mpr rfl) h; rfl)) (fun h => kf (by cases b; rfl; exact absurd h (by decide)))
theorem w_ialdN (O : gb_Ok G X cc nL ret own d) {a z : Nat} {r : Nat → Nat} {i : Nat} (hd : decode cc pc = .ok (.iaload, 1)) (hg : gb_ty G) (haN : a < gb_N G) (ha : M a = IN G z r) (hi : i < z) (hz : z < 2 ^ 31) (hn : pc + 1 = n) (k : Wm G X nL Q n lv (.int (nI (r i)) :: st) M) : Wm G X nL Q pc lv (.int (nI i) :: .ref (gb_ad G a) :: st) M :=
  w_iald O hd haN ha hg.1 (vp_in_nI hi hz) hn (w_top _ (by rw [nI_clamp (Nat.lt_trans hi hz)]) k)
theorem w_ialdA (O : gb_Ok G X cc nL ret own d) {a z : Nat} {r : Nat → Int32} {i : Nat} (hd : decode cc pc = .ok (.iaload, 1)) (hg : gb_ty G) (haN : a < gb_N G) (ha : M a = IA G z r) (hi : i < z) (hz : z < 2 ^ 31) (hn : pc + 1 = n) (k : Wm G X nL Q n lv (.int (r i) :: st) M) : Wm G X nL Q pc lv (.int (nI i) :: .ref (gb_ad G a) :: st) M :=
  w_iald O hd haN ha hg.1 (vp_in_nI hi hz) hn (w_top _ (by rw [nI_clamp (Nat.lt_trans hi hz)]) k)
theorem w_iastN (O : gb_Ok G X cc nL ret own d) {a z : Nat} {r : Nat → Nat} {i v : Nat} (hd : decode cc pc = .ok (.iastore, 1)) (hg : gb_ty G) (haN : a < gb_N G) (ha : M a = IN G z r) (hi : i < z) (hz : z < 2 ^ 31) (hn : pc + 1 = n) (k : Wm G X nL Q n lv st (va_up M a (IN G z (upN r i v)))) : Wm G X nL Q pc lv (.int (nI v) :: .int (nI i) :: .ref (gb_ad G a) :: st) M :=
  w_iast O hd haN ha hg.1 (vp_in_nI hi hz) hn (by rw [nI_clamp (Nat.lt_trans hi hz), upd_nI]; exact k)
theorem w_iastA (O : gb_Ok G X cc nL ret own d) {a z : Nat} {r : Nat → Int32} {i : Nat} {v : Int32} (hd : decode cc pc = .ok (.iastore, 1)) (hg : gb_ty G) (haN : a < gb_N G) (ha : M a = IA G z r) (hi : i < z) (hz : z < 2 ^ 31) (hn : pc + 1 = n) (k : Wm G X nL Q n lv st (va_up M a (IA G z (upd r i v)))) : Wm G X nL Q pc lv (.int v :: .int (nI i) :: .ref (gb_ad G a) :: st) M :=
  w_iast O hd haN ha hg.1 (vp_in_nI hi hz) hn (by rw [nI_clamp (Nat.lt_trans hi hz)]; exact k)
theorem w_zaldB (O : gb_Ok G X cc nL ret own d) {a z : Nat} {r : Nat → Bool} {i : Nat} (hd : decode cc pc = .ok (.baload, 1)) (hg : gb_ty G) (haN : a < gb_N G) (ha : M a = ZB G z r) (hi : i < z) (hz : z < 2 ^ 31) (hn : pc + 1 = n) (k : Wm G X nL Q n lv (.int (bI (r i)) :: st) M) : Wm G X nL Q pc lv (.int (nI i) :: .ref (gb_ad G a) :: st) M :=
  w_zald O hd haN ha hg.2.1 (vp_in_nI hi hz) hn (w_top _ (by rw [nI_clamp (Nat.lt_trans hi hz)]) k)
theorem w_zastB (O : gb_Ok G X cc nL ret own d) {a z : Nat} {r : Nat → Bool} {i : Nat} {v : Bool} {x : Int32} (hd : decode cc pc = .ok (.bastore, 1)) (hg : gb_ty G) (haN : a < gb_N G) (ha : M a = ZB G z r) (hx : x = bI v) (hi : i < z) (hz : z < 2 ^ 31) (hn : pc + 1 = n) (k : Wm G X nL Q n lv st (va_up M a (ZB G z (fun k => if k = i then v else r k)))) : Wm G X nL Q pc lv (.int x :: .int (nI i) :: .ref (gb_ad G a) :: st) M :=
  w_zast O hd haN ha hg.2.1 (vp_in_nI hi hz) hn (by
    rw [nI_clamp (Nat.lt_trans hi hz), hx, bI_vn]
    have e : upd (fun k => bI (r k)) i (bI v) = fun k => bI (if k = i then v else r k) := by
      funext k
      simp only [upd]
      split <;> rfl
    rw [e]; exact k)
theorem w_iincN (O : gb_Ok G X cc nL ret own d) {i x : Nat} (hd : decode cc pc = .ok (.iinc i 1, 3)) (hg : lvg lv i = some (.int (nI x))) (hL : i < nL) (hv : lvs1 lv i (.int (nI (x + 1))) = lv') (hn : pc + 3 = n) (k : Wm G X nL Q n lv' st M) : Wm G X nL Q pc lv st M :=
  w_iinc O hd hg (v := 1) rfl hL (by rw [nI_1]; exact hv) hn k
theorem nI_max0 {x y : Nat} (hx : x < 2 ^ 30) (hy : y < 2 ^ 30) : (if nI 0 < nI x - nI y then nI x - nI y else nI 0) = nI (x - y) := by
  rcases Nat.lt_or_ge x y with h | h
  · rw [if_neg, show x - y = 0 by omega]
    intro q
    have e := pk_sneg hy h
    rw [← nI_0] at e
    have h1 := Int32.lt_iff_toInt_lt.mp q
    have h2 := Int32.lt_iff_toInt_lt.mp e
    omega
  · rw [pk_sub h]
    by_cases e : x - y = 0
    · rw [e, if_neg (nI_nlt (Nat.le_refl 0) (by decide))]
    · rw [if_pos (nI_lt (by omega) (by omega))]
theorem nI_maxN {x y : Nat} (hx : x < 2 ^ 31) (hy : y < 2 ^ 31) : (if nI x < nI y then nI y else nI x) = nI (max x y) := by
  by_cases h : x < y
  · rw [if_pos (nI_lt h hy), Nat.max_eq_right (by omega)]
  · rw [if_neg (nI_nlt (by omega) hx), Nat.max_eq_left (by omega)]
theorem nI_minN {x y : Nat} (hx : x < 2 ^ 31) (hy : y < 2 ^ 31) : (if nI y < nI x then nI y else nI x) = nI (min x y) := by
  by_cases h : y < x
  · rw [if_pos (nI_lt h hx), Nat.min_eq_right (by omega)]
  · rw [if_neg (nI_nlt (by omega) hy), Nat.min_eq_left (by omega)]
theorem w_gets (O : gb_Ok G X cc nL ret own d) {C nm ds : String} {v : Value} {index : Nat} (hd : decode cc pc = .ok (.getstatic index, 3)) (hZ : va_Z C nm ds v (gb_A (gb_ad G) (gb_N G) X.2.2.2.1.heap.size) X.2.2.2.1 X.2.2.2.1.heap) (hlk : Cond.fieldLink own index C nm ds ∈ gU) (hn : pc + 3 = n) (k : Wm G X nL Q n lv (v :: st) M) : Wm G X nL Q pc lv st M := by
  subst hn; exact fun H locs ls hP hS hl => va_gets O.1 O.2.1 hZ hS O.2.2.2.1 (O.2.2.2.2.1 _ hlk) (fun _ h => h) hd (k H locs ls hP hS hl)
theorem w_getsN (O : gb_Ok G X cc nL ret own d) {C nm ds host : String} {v : Value} {index : Nat} (hd : decode cc pc = .ok (.getstatic index, 3)) (hZ : va_Z C nm ds v (gb_A (gb_ad G) (gb_N G) X.2.2.2.1.heap.size) X.2.2.2.1 X.2.2.2.1.heap) (hlk : va_Nw (.fieldLinkNest own index C nm ds host) X.2.2.2.1) (hn : pc + 3 = n) (k : Wm G X nL Q n lv (v :: st) M) : Wm G X nL Q pc lv st M := by
  subst hn; exact fun H locs ls hP hS hl => va_getsN O.1 O.2.1 hZ hS O.2.2.2.1 (va_Nw.use rfl hlk) (fun _ h => h) hd (k H locs ls hP hS hl)
theorem w_tald (O : gb_Ok G X cc nL ret own d) {t z : Nat} {r : Nat → Nat} {i : Nat} (hd : decode cc pc = .ok (.iaload, 1)) (hT : va_T .int t z (fun j => .int (nI (r j))) (gb_A (gb_ad G) (gb_N G) X.2.2.2.1.heap.size) X.2.2.2.1 X.2.2.2.1.heap) (hi : i < z) (hz : z < 2 ^ 31) (hn : pc + 1 = n) (k : Wm G X nL Q n lv (.int (nI (r i)) :: st) M) : Wm G X nL Q pc lv (.int (nI i) :: .ref t :: st) M := by
  subst hn; exact fun H locs ls hP hS hl => va_ti O.1 O.2.1 hT hS (vp_in_nI hi hz) (by rw [nI_clamp (Nat.lt_trans hi hz)]) hd (k H locs ls hP hS hl)
/-- calls whose answer is known -/
theorem w_cV (O : gb_Ok G X cc nL ret own d) {y : MethodName} {bytes : ByteArray} {maxL d' b ci N idx np : Nat} {rt : Option FieldType} {C : String} {T : u_T} {fs As : List Value} {st0 st1 : List Value} {ro : Option Value} {R : gb_M → Prop} (hd : decode cc pc = .ok (.invokevirtual idx, 3)) (hlk : Cond.methodLink own idx y ∈ gU) (hy : gb_CV y bytes maxL rt np) (F : Fn G d' y bytes maxL rt (.ref (gb_ad G b) :: As) M (fun v M' => v = ro ∧ R M')) (hnp : As.length = np) (hbN : b < gb_N G) (hb : M b = .inr (ci, fs)) (hc : vwCl[ci]? = some (C, T, N)) (hC : y.cls = C) (hst : st0 = As.reverse ++ .ref (gb_ad G b) :: st) (hs1 : ro.toList ++ st = st1) (hdd : d' + 1 ≤ d) (hcat : (st.map fun v => v.category).sum ≤ 8) (hn : pc + 3 = n) (k : ∀ M' : gb_M, R M' → Wm G X nL Q n lv st1 M') : Wm G X nL Q pc lv st0 M :=
  w_callV O hd hlk hy F hnp hbN hb hc hC hst hdd hcat hn (fun v M' h => by obtain ⟨rfl, h2⟩ := h; rw [hs1]; exact k M' h2)
theorem w_cS (O : gb_Ok G X cc nL ret own d) {y : MethodName} {bytes : ByteArray} {maxL d' idx np : Nat} {rt : Option FieldType} {As : List Value} {st0 st1 : List Value} {ro : Option Value} {R : gb_M → Prop} (hd : decode cc pc = .ok (.invokestatic idx, 3)) (hlk : Cond.methodLink own idx y ∈ gU) (hy : gb_CS y bytes maxL rt np) (F : Fn G d' y bytes maxL rt As M (fun v M' => v = ro ∧ R M')) (hnp : As.length = np) (hst : st0 = As.reverse ++ st) (hs1 : ro.toList ++ st = st1) (hdd : d' + 1 ≤ d) (hcat : (st.map fun v => v.category).sum ≤ 8) (hn : pc + 3 = n) (k : ∀ M' : gb_M, R M' → Wm G X nL Q n lv st1 M') : Wm G X nL Q pc lv st0 M :=
  w_callS O hd hlk hy F hnp hst hdd hcat hn (fun v M' h => by obtain ⟨rfl, h2⟩ := h; rw [hs1]; exact k M' h2)
theorem w_cN (O : gb_Ok G X cc nL ret own d) {y : MethodName} {bytes : ByteArray} {maxL d' idx np : Nat} {rt : Option FieldType} {host : String} {As : List Value} {st0 st1 : List Value} {ro : Option Value} {R : gb_M → Prop} (hd : decode cc pc = .ok (.invokestatic idx, 3)) (hlk : va_Nw (.methodLinkNest own idx y host) X.2.2.2.1) (hy : gb_CS y bytes maxL rt np) (F : Fn G d' y bytes maxL rt As M (fun v M' => v = ro ∧ R M')) (hnp : As.length = np) (hst : st0 = As.reverse ++ st) (hs1 : ro.toList ++ st = st1) (hdd : d' + 1 ≤ d) (hcat : (st.map fun v => v.category).sum ≤ 8) (hn : pc + 3 = n) (k : ∀ M' : gb_M, R M' → Wm G X nL Q n lv st1 M') : Wm G X nL Q pc lv st0 M :=
  w_callSN O hd hlk hy F hnp hst hdd hcat hn (fun v M' h => by obtain ⟨rfl, h2⟩ := h; rw [hs1]; exact k M' h2)
theorem w_lv {lv2 : List (Nat × Value)} (ks : List Nat) (h : lv_pick lv ks = lv2) (k : Wm G X nL Q pc lv2 st M) : Wm G X nL Q pc lv st M := fun H locs ls hP hS hl => k H locs ls hP hS (lv_sub hl ks h)
theorem w_iincM (O : gb_Ok G X cc nL ret own d) {i x : Nat} (hd : decode cc pc = .ok (.iinc i (-1), 3)) (hg : lvg lv i = some (.int (nI x))) (h1 : 1 ≤ x) (hL : i < nL) (hv : lvs1 lv i (.int (nI (x - 1))) = lv') (hn : pc + 3 = n) (k : Wm G X nL Q n lv' st M) : Wm G X nL Q pc lv st M :=
  w_iinc O hd hg (v := -1) rfl hL (by rw [sb_m1 h1]; exact hv) hn k
theorem sw_in (x : Int32) (n : Nat) (hn : n < 2 ^ 31) : (∃ j : Nat, j ≤ n ∧ x = nI j) ∨ (x.toInt < 0 ∨ (n : Int) < x.toInt) := by
  by_cases h : x.toInt < 0
  · exact Or.inr (Or.inl h)
  · by_cases h2 : (n : Int) < x.toInt
    · exact Or.inr (Or.inr h2)
    · refine Or.inl ⟨x.toInt.toNat, by omega, ?_⟩
      apply Int32.toInt_inj.mp
      rw [nI_toInt (by omega)]
      omega
end GBN
