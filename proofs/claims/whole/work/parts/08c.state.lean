/-! WHAT THE CALLS ANSWER, 3 -/
def hMost (V : Tw) : Option Nat := (sMost (fun g => V.1 (g * 6 + 5)) V.2.2.2.1).1
def cStep (V : Tw) (k : Nat) : Tw := (upN V.1 (k * 6 + 5) (V.1 (k * 6 + 5) - 1), V.2)
def cRun : Nat → Tw → Nat → Option Nat → Option (Nat × Option Nat)
  | 0, _, _, _ => none
  | f + 1, V, dn, l => if tTrue V = true then some (dn, l) else match hMost V with
    | none => none
    | some k => cRun f (cStep V k) (dn + 1) (some k)
def holdS (T : Tw) : Nat := sSum (fun g => T.1 (g * 6 + 5)) T.2.2.2.1
def castAns (o : Option (Nat × Option Nat)) (x : Int32) : Int32 := match o with
  | none => -4
  | some q => if x = nI 0 then nI q.1 else oI q.2
def a_casts (T : Tw) (x : Int32) : Int32 := if wIn x (nI 0) (nI 1) = true then castAns (cRun (holdS T + 1) T 0 none) x else -1
theorem sMost_in {f : Nat → Nat} : ∀ {n k : Nat}, (sMost f n).1 = some k → k < n ∧ 0 < f k
  | 0, k, h => by cases h
  | n + 1, k, h => by
    simp only [sMost] at h
    by_cases q : (sMost f n).2 < f n
    · rw [if_pos q] at h
      cases h
      exact ⟨by omega, by omega⟩
    · rw [if_neg q] at h
      have := sMost_in h
      exact ⟨by omega, this.2⟩
theorem oI_some {o : Option Nat} (h : ¬ oI o = -4) : ∃ k, o = some k := by
  cases o with
  | none => exact absurd rfl h
  | some k => exact ⟨k, rfl⟩
theorem oI_none {o : Option Nat} (hb : ∀ k, o = some k → k < 2 ^ 31) (h : oI o = -4) : o = none := by
  cases o with
  | none => rfl
  | some k => exact absurd h.symm (nI_neg4 (hb k rfl))
theorem okT_cStep {V : Tw} (ok : okT V) {k : Nat} (hk : k < 4) : okT (cStep V k) := by
  have h := (ok.2.1 k hk).2.2.2.2.2
  exact okT_tr ok hk (by omega) (by show _ ≤ 9; omega)
def swapT (T : Tw) (l h : Nat) : Tw := (upN (upN T.1 (l * 6 + 2) (T.1 (h * 6 + 2))) (h * 6 + 2) (T.1 (l * 6 + 2)), T.2)
def swB (T : Tw) (c : Nat) : Bool := decide (c / 10 < c % 10 ∧ c % 10 < T.2.2.2.1) && tTrue (swapT T (c / 10) (c % 10))
def a_swap (T : Tw) : Int32 := if tTrue T = true then -2 else oI (sFirst (swB T) 40)
def seeOk (i v : Int32) : Bool := wIn i (nI 0) (nI 8) && wIn v (nI 0) (nI 9)
def a_see (sn : Nat) (i v : Int32) : Int32 := if seeOk i v = true then (if sn = 6 then -3 else nI (sn + 1)) else -1
def s_see (st sf : Nat → Nat) (sn : Nat) (i v : Int32) : (Nat → Nat) × (Nat → Nat) × Nat := if seeOk i v = true ∧ ¬ sn = 6 then (upN st sn i.toNatClampNeg, upN sf sn v.toNatClampNeg, sn + 1) else (st, sf, sn)
def allG (T : Tw) : Nat := 10 ^ T.2.2.2.1
def a_fits (T : Tw) (st sf : Nat → Nat) (sn : Nat) (x : Int32) : Int32 := if wIn x (nI 0) (nI 1) = true then (if x = nI 0 then nI (sCnt (fitB T st sf sn) (allG T)) else oI (sFirst (fitB T st sf sn) (allG T))) else -1
def a_range (T : Tw) (st sf : Nat → Nat) (sn : Nat) (g x : Int32) : Int32 := if isGv g T.2.2.2.1 = true ∧ wIn x (nI 0) (nI 1) = true then (if sCnt (fitB T st sf sn) (allG T) = 0 then -4 else if x = nI 0 then nI (sLow (fitB T st sf sn) (fun c => dig T.2.2.2.1 c g.toNatClampNeg) (allG T)) else nI (sHigh (fitB T st sf sn) (fun c => dig T.2.2.2.1 c g.toNatClampNeg) (allG T))) else -1
def wrst (T : Tw) (st sf : Nat → Nat) (sn i : Nat) : Nat := sMaxv (fun v => sCnt (tellC T (fitB T st sf sn) (i * 10 + v)) (allG T)) 10
def nxt (W : Nat → Nat) (all : Nat) : Nat → Option Nat × Nat
  | 0 => (none, all)
  | i + 1 => if W i < (nxt W all i).2 then (some i, W i) else nxt W all i
def a_next (T : Tw) (st sf : Nat → Nat) (sn : Nat) (x : Int32) : Int32 := if wIn x (nI 0) (nI 1) = true then (if (nxt (wrst T st sf sn) (sCnt (fitB T st sf sn) (allG T)) 9).1 = none ∨ x = nI 0 then oI (nxt (wrst T st sf sn) (sCnt (fitB T st sf sn) (allG T)) 9).1 else nI (nxt (wrst T st sf sn) (sCnt (fitB T st sf sn) (allG T)) 9).2) else -1
def upI (im : Nat → Tw) (k : Nat) (T : Tw) : Nat → Tw := fun q => if q = k then T else im q
def upK (kp : Nat → Bool) (k : Nat) (b : Bool) : Nat → Bool := fun q => if q = k then b else kp q
def a_keep (kp : Nat → Bool) (x : Int32) : Int32 := if wIn x (nI 0) (nI 1) = true then bI (kp x.toNatClampNeg) else -1
def s_keep (T : Tw) (im : Nat → Tw) (kp : Nat → Bool) (x : Int32) : (Nat → Tw) × (Nat → Bool) := if wIn x (nI 0) (nI 1) = true then (upI im x.toNatClampNeg T, upK kp x.toNatClampNeg true) else (im, kp)
def a_back (im : Nat → Tw) (kp : Nat → Bool) (x : Int32) : Int32 := if wIn x (nI 0) (nI 1) = true then (if kp x.toNatClampNeg = true then nI (im x.toNatClampNeg).2.2.2.2.2.2 else -2) else -1
def s_back (T : Tw) (im : Nat → Tw) (kp : Nat → Bool) (x : Int32) : Tw := if wIn x (nI 0) (nI 1) = true ∧ kp x.toNatClampNeg = true then im x.toNatClampNeg else T
theorem cI_at {G : gb_G} {M : gb_M} {im : Nat → Tw} (h : cI G M im) {k : Nat} (hk : k < 2) : isT G M (31 + 4 * k) (im k) := by
  rcases (show k = 0 ∨ k = 1 by omega) with e | e <;> subst e
  · exact h.2.1
  · exact h.2.2
theorem cI_set {G : gb_G} {M M' : gb_M} {im : Nat → Tw} {k : Nat} {T : Tw} (h : cI G M im) (hk : k < 2) (hT : isT G M' (31 + 4 * k) T) (hs : ∀ q, 30 ≤ q → q ≤ 38 → (q < 31 + 4 * k ∨ 31 + 4 * k + 3 < q) → M' q = M q) : cI G M' (upI im k T) := by
  refine ⟨(hs 30 (by omega) (by omega) (by omega)).trans h.1, ?_, ?_⟩
  · by_cases e : k = 0
    · subst e
      exact hT
    · have e2 : upI im k T 0 = im 0 := if_neg (fun q => e q.symm)
      rw [e2]
      exact h.2.1.kp (fun q h1 h2 => hs q (by omega) (by omega) (by omega))
  · by_cases e : k = 1
    · subst e
      exact hT
    · have e2 : upI im k T 1 = im 1 := if_neg (fun q => e q.symm)
      rw [e2]
      exact h.2.2.kp (fun q h1 h2 => hs q (by omega) (by omega) (by omega))
def upS (sh : Sh) (k : Nat) (o : Option (Nat × Nat)) : Sh := fun q => if q = k then o else sh q
def upC (sc : Nat → Nat → Int32) (k : Nat) (r : Nat → Int32) : Nat → Nat → Int32 := fun q => if q = k then r else sc q
theorem cH_set {G : gb_G} {M M' : gb_M} {sh : Sh} {sc : Nat → Nat → Int32} {k pf : Nat} {o : Option (Nat × Nat)} {r : Nat → Int32} (h : cH G M sh sc) (hk : k < 4) (hS : isS G M' (41 + 2 * k) (szI o) pf (laI o) r) (hp : pf ≤ 4) (hs : ∀ q, 40 ≤ q → q ≤ 48 → (q < 41 + 2 * k ∨ 41 + 2 * k + 1 < q) → M' q = M q) : cH G M' (upS sh k o) (upC sc k r) := by
  refine ⟨(hs 40 (by omega) (by omega) (by omega)).trans h.1, fun q hq => ?_⟩
  by_cases e : q = k
  · subst e
    rw [show upS sh q o q = o from if_pos rfl, show upC sc q r q = r from if_pos rfl]
    exact ⟨pf, hp, hS⟩
  · rw [show upS sh k o q = sh q from if_neg e, show upC sc k r q = sc q from if_neg e]
    obtain ⟨pf2, h2, h3, h4⟩ := h.2 q hq
    exact ⟨pf2, h2, (hs _ (by omega) (by omega) (by omega)).trans h3, (hs _ (by omega) (by omega) (by omega)).trans h4⟩
def shOk (k lane n : Int32) : Bool := wIn k (nI 0) (nI 3) && wIn lane (nI 0) (nI 2) && decide (n ≤ nI 40)
def a_sheet (k lane n : Int32) : Int32 := if shOk k lane n = true then (if n < 0 then -14 else 1) else -1
def s_sheet (sh : Sh) (sc : Nat → Nat → Int32) (k lane n : Int32) : Sh × (Nat → Nat → Int32) := if shOk k lane n = true ∧ ¬ n < 0 then (upS sh k.toNatClampNeg (some (lane.toNatClampNeg, n.toNatClampNeg)), upC sc k.toNatClampNeg (fun _ => nI 0)) else (sh, sc)
def layF (sh : Sh) (k i : Int32) : Nat := fltAt (szI (sh k.toNatClampNeg)) i
def a_lay (sh : Sh) (k i : Int32) : Int32 := if wIn k (nI 0) (nI 3) = true then (if layF sh k i = 0 then 1 else -10 - nI (layF sh k i)) else -1
def s_lay (sh : Sh) (sc : Nat → Nat → Int32) (k i v : Int32) : Nat → Nat → Int32 := if wIn k (nI 0) (nI 3) = true ∧ layF sh k i = 0 then upC sc k.toNatClampNeg (upd (sc k.toNatClampNeg) i.toNatClampNeg (laneV (laI (sh k.toNatClampNeg)) v)) else sc
def a_count (T : Tw) (kp : Nat → Bool) (ln sn : Nat) (sh : Sh) (x : Int32) : Int32 := if x = nI 0 then nI sn else if x = nI 1 then nI ((if kp 0 = true then 1 else 0) + (if kp 1 = true then 1 else 0)) else if x = nI 2 then nI ln else if x = nI 3 then (if szI (sh 0) = -1 then -4 else szI (sh 0)) else if x = nI 4 then nI (sSum (tGives T) T.2.2.2.1) else if x = nI 5 then nI (sSum (fun g => T.1 (g * 6 + 1)) T.2.2.2.1) else -1
theorem sw_no {T : Tw} {l h : Nat} (hno : ∀ c, c < 10 * l + h → swB T c = false) (hh : swB T (10 * l + h) = false) : ∀ c, c < 10 * l + (h + 1) → swB T c = false := fun c hc => by
  rcases Nat.lt_or_ge c (10 * l + h) with q | q
  · exact hno c q
  · rw [show c = 10 * l + h by omega]
    exact hh
theorem swB_at {T : Tw} {l h : Nat} (hh : h < 10) (h1 : l < h) (h2 : h < T.2.2.2.1) : swB T (10 * l + h) = tTrue (swapT T l h) := by
  unfold swB
  rw [show (10 * l + h) / 10 = l by omega, show (10 * l + h) % 10 = h by omega, decide_eq_true ⟨h1, h2⟩]
  rfl
theorem swB_off {T : Tw} {c : Nat} (h : ¬ (c / 10 < c % 10 ∧ c % 10 < T.2.2.2.1)) : swB T c = false := by
  unfold swB
  rw [decide_eq_false h]
  rfl
