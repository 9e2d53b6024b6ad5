/-! THE STATE that both sides keep, as the class's cells have it -/
abbrev Sh : Type := Nat → Option (Nat × Nat)
def szI (o : Option (Nat × Nat)) : Int32 := match o with
  | none => -1
  | some q => nI q.2
def laI (o : Option (Nat × Nat)) : Nat := match o with
  | none => 0
  | some q => q.1
def kpM (M M' : gb_M) (lo hi : Nat) : Prop := ∀ k : Nat, lo ≤ k → k ≤ hi → M' k = M k
theorem kpM.tr {M M1 M2 : gb_M} {lo hi : Nat} (h1 : kpM M M1 lo hi) (h2 : kpM M1 M2 lo hi) : kpM M M2 lo hi := fun k a b => (h2 k a b).trans (h1 k a b)
def cT (G : gb_G) (M : gb_M) (b : Nat) : Prop := ∃ U : Tw, isT G M b U
def isP (G : gb_G) (M : gb_M) (bs : Nat → Nat) (ln pl so sa nu : Nat) : Prop := M 12 = .inr (4, [.ref (gb_ad G 13), .int (nI ln), .int (nI pl), .int (nI so), .int (nI sa), .int (nI nu)]) ∧ M 13 = IN G 160 bs
def cP (G : gb_G) (M : gb_M) (bs : Nat → Nat) (ln : Nat) : Prop := ∃ pl so sa nu : Nat, isP G M bs ln pl so sa nu ∧ sa ≤ 160 ∧ so ≤ 4
def isC (G : gb_G) (M : gb_M) (fo fp s1 s2 s3 : Nat) (s4 : Bool) : Prop := M 14 = .inr (2, [.ref (gb_ad G 15), .int (nI fo), .int (nI fp), .int (nI s1), .int (nI s2), .int (nI s3), .int (bI s4)])
def cS (G : gb_G) (M : gb_M) (fa : Nat) : Prop := ∃ (fp s1 s2 s3 : Nat) (s4 : Bool) (V : Tw), isC G M fa fp s1 s2 s3 s4 ∧ isT G M 15 V
def cG (G : gb_G) (M : gb_M) (st sf : Nat → Nat) (sn : Nat) : Prop := ∃ (ft : Nat) (ln : Option Nat) (lo hi le gi mo gu : Nat → Nat) (ts am : Nat → Int32) (gv : Nat) (tl : Bool), isG G M st sf sn ft ln lo hi le gi mo gu ts am gv tl
def TA (G : gb_G) : va_E := .inl (gT G, 2, .inr (.inr (.inr (.inr (fun k => some (gb_ad G (31 + 4 * k)))))))
def SA (G : gb_G) : va_E := .inl (gS G, 4, .inr (.inr (.inr (.inr (fun k => some (gb_ad G (41 + 2 * k)))))))
def cI (G : gb_G) (M : gb_M) (im : Nat → Tw) : Prop := M 30 = TA G ∧ isT G M 31 (im 0) ∧ isT G M 35 (im 1)
def cH (G : gb_G) (M : gb_M) (sh : Sh) (sc : Nat → Nat → Int32) : Prop := M 40 = SA G ∧ ∀ k, k < 4 → ∃ pf : Nat, pf ≤ 4 ∧ isS G M (41 + 2 * k) (szI (sh k)) pf (laI (sh k)) (sc k)
/-- what holds of the numbers themselves -/
def okS (T : Tw) (im : Nat → Tw) (kp : Nat → Bool) (bs : Nat → Nat) (ln fa : Nat) (st sf : Nat → Nat) (sn : Nat) (sh : Sh) (tn : Nat) : Prop :=
  okT T ∧ T.2.2.2.2.2.2 ≤ 999 ∧ (∀ k, k < 2 → okT (im k) ∧ (im k).2.2.2.2.2.2 ≤ 999 ∧ (kp k = true → (im k).2.2.2.1 = T.2.2.2.1)) ∧ ln ≤ 160 ∧ (∀ k, k < ln → bs k ≤ 127) ∧ fa ≤ 6 ∧ sn ≤ 6 ∧ (∀ k, k < sn → st k ≤ 8 ∧ sf k ≤ 9) ∧ (∀ k, k < 4 → ∀ q, sh k = some q → q.1 ≤ 2 ∧ q.2 ≤ 40) ∧ tn ≤ 4
def isCW (G : gb_G) (M : gb_M) (T : Tw) (im : Nat → Tw) (kp : Nat → Bool) (bs : Nat → Nat) (ln fa : Nat) (st sf : Nat → Nat) (sn : Nat) (sh : Sh) (sc : Nat → Nat → Int32) (tn : Nat) : Prop :=
  isB G M tn ∧ isT G M 1 T ∧ okS T im kp bs ln fa st sf sn sh tn ∧ cT G M 5 ∧ isMx G M ∧ cP G M bs ln ∧ cS G M fa ∧ cG G M st sf sn ∧ cI G M im ∧ M 39 = ZB G 2 kp ∧ cH G M sh sc
theorem isB.kp {G : gb_G} {M M' : gb_M} {tn : Nat} (h : isB G M tn) (s : kpM M M' 0 0) : isB G M' tn := (s 0 (by omega) (by omega)).trans h
theorem isT.kp {G : gb_G} {M M' : gb_M} {b : Nat} {T : Tw} (h : isT G M b T) (s : kpM M M' b (b + 3)) : isT G M' b T := ⟨(s b (by omega) (by omega)).trans h.1, (s (b + 1) (by omega) (by omega)).trans h.2.1, (s (b + 2) (by omega) (by omega)).trans h.2.2.1, (s (b + 3) (by omega) (by omega)).trans h.2.2.2⟩
theorem cT.kp {G : gb_G} {M M' : gb_M} {b : Nat} (h : cT G M b) (s : kpM M M' b (b + 3)) : cT G M' b := h.elim fun U hU => ⟨U, hU.kp s⟩
theorem isMx.kp {G : gb_G} {M M' : gb_M} (h : isMx G M) (s : kpM M M' 9 11) : isMx G M' := by
  obtain ⟨pa, am, w, hM, hp⟩ := h
  exact ⟨pa, am, w, ⟨(s 9 (by omega) (by omega)).trans hM.1, (s 10 (by omega) (by omega)).trans hM.2.1, (s 11 (by omega) (by omega)).trans hM.2.2⟩, hp⟩
theorem cP.kp {G : gb_G} {M M' : gb_M} {bs : Nat → Nat} {ln : Nat} (h : cP G M bs ln) (s : kpM M M' 12 13) : cP G M' bs ln := by
  obtain ⟨a, b, c, d, ⟨h1, h2⟩, h3⟩ := h
  exact ⟨a, b, c, d, ⟨(s 12 (by omega) (by omega)).trans h1, (s 13 (by omega) (by omega)).trans h2⟩, h3⟩
theorem cS.kp {G : gb_G} {M M' : gb_M} {fa : Nat} (h : cS G M fa) (s : kpM M M' 14 18) : cS G M' fa := by
  obtain ⟨a, b, c, d, e, V, h1, h2⟩ := h
  exact ⟨a, b, c, d, e, V, (s 14 (by omega) (by omega)).trans h1, h2.kp (fun k h1 h2 => s k (by omega) (by omega))⟩
theorem cG.kp {G : gb_G} {M M' : gb_M} {st sf : Nat → Nat} {sn : Nat} (h : cG G M st sf sn) (s : kpM M M' 19 29) : cG G M' st sf sn := by
  obtain ⟨a1, a2, a3, a4, a5, a6, a7, a8, a9, b1, b2, b3, h0, h1, h2, h3, h4, h5, h6, h7, h8, h9, h10⟩ := h
  have z : ∀ k e, 19 ≤ k → k ≤ 29 → M k = e → M' k = e := fun k e q1 q2 q3 => (s k q1 q2).trans q3
  exact ⟨a1, a2, a3, a4, a5, a6, a7, a8, a9, b1, b2, b3, z _ _ (by omega) (by omega) h0, z _ _ (by omega) (by omega) h1, z _ _ (by omega) (by omega) h2, z _ _ (by omega) (by omega) h3, z _ _ (by omega) (by omega) h4, z _ _ (by omega) (by omega) h5, z _ _ (by omega) (by omega) h6, z _ _ (by omega) (by omega) h7, z _ _ (by omega) (by omega) h8, z _ _ (by omega) (by omega) h9, z _ _ (by omega) (by omega) h10⟩
theorem cI.kp {G : gb_G} {M M' : gb_M} {im : Nat → Tw} (h : cI G M im) (s : kpM M M' 30 38) : cI G M' im := ⟨(s 30 (by omega) (by omega)).trans h.1, h.2.1.kp (fun k h1 h2 => s k (by omega) (by omega)), h.2.2.kp (fun k h1 h2 => s k (by omega) (by omega))⟩
theorem cH.kp {G : gb_G} {M M' : gb_M} {sh : Sh} {sc : Nat → Nat → Int32} (h : cH G M sh sc) (s : kpM M M' 40 48) : cH G M' sh sc := ⟨(s 40 (by omega) (by omega)).trans h.1, fun k hk => by
  obtain ⟨pf, hp, h1, h2⟩ := h.2 k hk
  exact ⟨pf, hp, (s _ (by omega) (by omega)).trans h1, (s _ (by omega) (by omega)).trans h2⟩⟩
theorem kpE.kp {M M' : gb_M} {a : Nat} {e : va_E} (h : M a = e) (s : kpM M M' a a) : M' a = e := (s a (by omega) (by omega)).trans h
theorem kp_up {M : gb_M} {a lo hi : Nat} {e : va_E} (h : a < lo ∨ hi < a) : kpM M (va_up M a e) lo hi := fun k h1 h2 => va_up_ne _ _ (by omega)
theorem kp_sm {M M' : gb_M} {lo hi a b : Nat} (s : sm M M' a b) (h : b < lo ∨ hi < a) : kpM M M' lo hi := fun k h1 h2 => s k (by omega)
theorem kp_sm2 {M M' : gb_M} {lo hi a b c d : Nat} (s : sm2 M M' a b c d) (h : b < lo ∨ hi < a) (h2 : d < lo ∨ hi < c) : kpM M M' lo hi := fun k h1 h3 => s k (by omega) (by omega)
/-! WHAT THE CALLS ANSWER -/
def a_feed (ln : Nat) (c : Int32) : Int32 := if wIn c (nI 0) (nI 127) = true then (if ln = 160 then -3 else nI (ln + 1)) else -1
def s_feed (bs : Nat → Nat) (ln : Nat) (c : Int32) : (Nat → Nat) × Nat := if wIn c (nI 0) (nI 127) = true ∧ ¬ ln = 160 then (upN bs ln c.toNatClampNeg, ln + 1) else (bs, ln)
def a_end (ln : Nat) (x : Int32) : Int32 := if wIn x (nI 0) (nI ln) = true then nI ln else -1
def s_end (ln : Nat) (x : Int32) : Nat := if wIn x (nI 0) (nI ln) = true then x.toNatClampNeg else ln
def a_rule (T : Tw) (x : Int32) : Int32 := if x = nI 0 then nI T.2.2.2.1 else if x = nI 1 then nI T.2.2.2.2.1 else if x = nI 2 then nI T.2.2.2.2.2.1 else if x = nI 3 then nI T.2.2.2.2.2.2 else if x = nI 4 then nI (sBits (fun g => decide (0 < T.1 (g * 6 + 4))) T.2.2.2.1) else if x = nI 5 then nI (sBits (fun g => decide (0 < T.1 (g * 6 + 5))) T.2.2.2.1) else -1
def a_giver (T : Tw) (g x : Int32) : Int32 := if isGv g T.2.2.2.1 = true then (if wIn x (nI 0) (nI 5) = true then nI (T.1 (g.toNatClampNeg * 6 + x.toNatClampNeg)) else if x = nI 6 then nI (tOwes T g.toNatClampNeg) else if x = nI 7 then nI (tGives T g.toNatClampNeg) else -1) else -1
def a_metal (T : Tw) (m x : Int32) : Int32 := if wIn m (nI 0) (nI 3) = true ∧ wIn x (nI 0) (if m = nI 3 then nI 0 else nI 2) = true then (if x = nI 1 then nI (T.2.1 m.toNatClampNeg) else if x = nI 2 then nI (T.2.2.1 m.toNatClampNeg) else nI (bAm T m.toNatClampNeg)) else -1
def a_bell (T : Tw) (x : Int32) : Int32 := if x = nI 0 then nI (bWt T) else if x = nI 1 then oI (pNote (bAm T) (bWt T)) else if x = nI 2 then nI (pSweet (bAm T) (bWt T)) else if x = nI 3 then bI (tTrue T) else if x = nI 4 then nI (sBits (fun g => decide (tGives T g < tShare T g)) T.2.2.2.1) else -1
def a_tap (T : Tw) (i : Int32) : Int32 := if wIn i (nI 0) (nI 8) = true then nI (tTap T i.toNatClampNeg) else -1
def altOk (T : Tw) (g x v : Int32) : Bool := isGv g T.2.2.2.1 && wIn x (nI 0) (nI 5) && wIn v (nI 0) (nI (gb_hig x.toNatClampNeg))
def a_alter (T : Tw) (g x v : Int32) : Int32 := if altOk T g x v = true then nI (T.1 (g.toNatClampNeg * 6 + x.toNatClampNeg)) else -1
def s_alter (T : Tw) (g x v : Int32) : Tw := if altOk T g x v = true then (upN T.1 (g.toNatClampNeg * 6 + x.toNatClampNeg) v.toNatClampNeg, T.2) else T
def addOk (m v : Int32) : Bool := wIn m (nI 0) (nI 2) && wIn v (nI 0) (nI 40)
def a_add (T : Tw) (m v : Int32) : Int32 := if addOk m v = true then nI (T.2.1 m.toNatClampNeg) else -1
def s_add (T : Tw) (m v : Int32) : Tw := if addOk m v = true then (T.1, upN T.2.1 m.toNatClampNeg v.toNatClampNeg, T.2.2) else T
def a_ask (T : Tw) (x v : Int32) : Int32 := if x = nI 0 ∧ wIn v (nI 3) (nI 12) = true then nI T.2.2.2.2.1 else if x = nI 1 ∧ wIn v (nI 0) (nI 10) = true then nI T.2.2.2.2.2.1 else -1
def s_ask (T : Tw) (x v : Int32) : Tw := if x = nI 0 ∧ wIn v (nI 3) (nI 12) = true then (T.1, T.2.1, T.2.2.1, T.2.2.2.1, v.toNatClampNeg, T.2.2.2.2.2) else if x = nI 1 ∧ wIn v (nI 0) (nI 10) = true then (T.1, T.2.1, T.2.2.1, T.2.2.2.1, T.2.2.2.2.1, v.toNatClampNeg, T.2.2.2.2.2.2) else T
def rep {α : Type} (f : α → α) : Nat → α → α
  | 0, a => a
  | k + 1, a => rep f k (f a)
def s_ring (T : Tw) (x : Int32) : Tw := if wIn x (nI 0) (nI 99) = true ∧ T.2.2.2.2.2.2 + x.toNatClampNeg < 1000 then rep tStrike x.toNatClampNeg T else T
def a_ring (T : Tw) (x : Int32) : Int32 := if wIn x (nI 0) (nI 99) = true then (if T.2.2.2.2.2.2 + x.toNatClampNeg < 1000 then nI (bWt (rep tStrike x.toNatClampNeg T)) else -3) else -1
