/-! WHAT THE CALLS ANSWER, 6: read -/
def conf (T : Tw) (r : Nat → Int32) (fn i : Nat) : Bool := isGv (r (fn + 2 * i)) T.2.2.2.1 && wIn (r (fn + 2 * i + 1)) (nI 0) (nI 9)
def rdW (sh : Sh) (j lane : Nat) (f : Int32) (n : Nat) : Nat := fstF (pairF (szI (sh j)) (laI (sh j)) lane f) n 0
def rdB (T : Tw) (r : Nat → Int32) (fn wh : Nat) : Nat := fstF (fun i => if conf T r fn i = true then 0 else 1) wh 0
def rdT (T : Tw) (r : Nat → Int32) (fn : Nat) : Nat → Tw
  | 0 => T
  | i + 1 => (upN (rdT T r fn i).1 ((r (fn + 2 * i)).toNatClampNeg * 6 + 1) (r (fn + 2 * i + 1)).toNatClampNeg, (rdT T r fn i).2)
def rdOk (k lane n : Int32) : Bool := wIn k (nI 0) (nI 3) && wIn lane (nI 0) (nI 2) && wIn n (nI 0) (nI 20)
/-- how many pairs are whole; the first of them that is bad -/
def rdWh (sh : Sh) (k lane f n : Int32) : Nat := rdW sh k.toNatClampNeg lane.toNatClampNeg f n.toNatClampNeg
def rdBd (T : Tw) (sh : Sh) (sc : Nat → Nat → Int32) (k lane f n : Int32) : Nat := rdB T (sc k.toNatClampNeg) f.toNatClampNeg (rdWh sh k lane f n)
def a_read (T : Tw) (sh : Sh) (sc : Nat → Nat → Int32) (k lane f n : Int32) : Int32 := if rdOk k lane n = true then (if rdBd T sh sc k lane f n < rdWh sh k lane f n then -20 - nI (rdBd T sh sc k lane f n) else nI (rdWh sh k lane f n)) else -1
def s_readT (T : Tw) (sh : Sh) (sc : Nat → Nat → Int32) (k lane f n : Int32) : Tw := if rdOk k lane n = true ∧ ¬ rdBd T sh sc k lane f n < rdWh sh k lane f n then rdT T (sc k.toNatClampNeg) f.toNatClampNeg (rdWh sh k lane f n) else T
def s_readN (T : Tw) (sh : Sh) (sc : Nat → Nat → Int32) (tn : Nat) (k lane f n : Int32) : Nat := if rdOk k lane n = true ∧ ¬ rdBd T sh sc k lane f n < rdWh sh k lane f n then (if rdWh sh k lane f n < n.toNatClampNeg then pairF (szI (sh k.toNatClampNeg)) (laI (sh k.toNatClampNeg)) lane.toNatClampNeg f (rdWh sh k lane f n) else 0) else tn
theorem pfl0 {sz : Int32} {la lane : Nat} {f : Int32} (h : pfl sz la lane f = 0) : fltAt sz f = 0 ∧ fltAt sz (f + nI 1) = 0 := by
  unfold pfl at h
  split at h
  · cases h
  · split at h
    · exact ⟨by assumption, h⟩
    · exact absurd h (by assumption)
theorem fst_below {P : Nat → Nat} : ∀ (k a i : Nat), a ≤ i → i < fstF P k a → P i = 0
  | 0, a, i, h1, h2 => by simp only [fstF] at h2; omega
  | k + 1, a, i, h1, h2 => by
    simp only [fstF] at h2
    by_cases e : P a = 0
    · rw [if_pos e] at h2
      by_cases e2 : a = i
      · subst e2; exact e
      · exact fst_below k (a + 1) i (by omega) h2
    · rw [if_neg e] at h2
      omega
/-- where pairs are whole the first cell's number is a small natural -/
theorem rd_f {o : Option (Nat × Nat)} {la lane wh : Nat} {f : Int32} (hb : ∀ q, o = some q → q.2 ≤ 40) (h0 : 0 < wh) (hw : wh ≤ 20) (h : ∀ i, i < wh → pairF (szI o) la lane f i = 0) : f = nI f.toNatClampNeg ∧ ∀ i, i < wh → f.toNatClampNeg + 2 * i + 1 < 40 := by
  have e0 := (pfl0 (h 0 h0)).1
  rw [show f + nI (2 * 0) = f by rw [nI_0, Int32.add_zero]] at e0
  obtain ⟨q, j, hq, hj, hjq⟩ := flt0 hb e0
  have hq40 := hb q hq
  have hc : f.toNatClampNeg = j := by rw [hj]; exact nI_clamp (by omega)
  refine ⟨by rw [hc]; exact hj, fun i hi => ?_⟩
  have e1 := (pfl0 (h i hi)).2
  rw [hj, nI_add, nI_add] at e1
  obtain ⟨q2, j2, hq2, hj2, hjq2⟩ := flt0 hb e1
  have hq40' := hb q2 hq2
  have := (nI_eq (a := j + 2 * i + 1) (by omega) (by omega)).mp hj2
  omega
theorem rdT_ok {T : Tw} (ok : okT T) {r : Nat → Int32} {fn : Nat} : ∀ {i : Nat}, (∀ k, k < i → conf T r fn k = true) → okT (rdT T r fn i) ∧ (rdT T r fn i).2 = T.2
  | 0, _ => ⟨ok, rfl⟩
  | i + 1, h => by
    have hp := rdT_ok (i := i) ok (fun k hk => h k (by omega))
    have hc := h i (by omega)
    simp only [conf, Bool.and_eq_true] at hc
    have h4 := ok.1
    obtain ⟨g, hg, eg⟩ := isGv_t (by omega) hc.1
    obtain ⟨v, _, hv, ev⟩ := wIn_t (by decide) hc.2 (by omega)
    refine ⟨?_, hp.2⟩
    show okT (upN _ ((r (fn + 2 * i)).toNatClampNeg * 6 + 1) (r (fn + 2 * i + 1)).toNatClampNeg, _)
    rw [eg, ev, nI_clamp (by omega), nI_clamp (by omega)]
    exact gft_ok hp.1 (by omega) hv
