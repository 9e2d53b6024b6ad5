/-! THE WORLD AT THE LOOP'S HEAD -/
def rE (e e' : va_E) : Prop := ∀ (D : va_G) (cl : List vw_C) (a : Nat) (H : Heap), va_at D cl (a, e) H → va_at D cl (a, e') H
theorem rE.rf {e : va_E} : rE e e := fun _ _ _ _ h => h
theorem rE.i {c : ClassId} {z : Nat} {r r' : Nat → Int32} (h : ∀ j, j < z → r j = r' j) : rE (.inl (c, z, .inl r)) (.inl (c, z, .inl r')) := fun D cl a H q => by
  have q : H[a]? = some (vp_cell c (z, .inl r)) := q
  rw [gb_arr h] at q
  exact q
theorem gb_arq {cA : ClassId} {z : Nat} {r r' : Nat → Option Nat} (h : ∀ j, j < z → r j = r' j) : vp_cell cA (z, .inr (.inr (.inr (.inr r)))) = vp_cell cA (z, .inr (.inr (.inr (.inr r')))) := by
  rw [vp_cell_q, vp_cell_q]
  unfold arrV
  congr 1
  apply Array.ext
  · simp
  · intro i h1 h2
    have hz : i < z := by simpa using h1
    simp [h i hz]
theorem rE.q {c : ClassId} {z : Nat} {r r' : Nat → Option Nat} (h : ∀ j, j < z → r j = r' j) : rE (.inl (c, z, .inr (.inr (.inr (.inr r))))) (.inl (c, z, .inr (.inr (.inr (.inr r'))))) := fun D cl a H q => by
  have q : H[a]? = some (vp_cell c (z, .inr (.inr (.inr (.inr r))))) := q
  rw [gb_arq h] at q
  exact q
def rW : va_W → va_W → Prop
  | [], [] => True
  | x :: t, y :: t' => x.1 = y.1 ∧ rE x.2 y.2 ∧ rW t t'
  | [], _ :: _ => False
  | _ :: _, [] => False
theorem rW.get : ∀ {ws ws' : va_W}, rW ws ws' → ∀ (k : Nat) (q : Nat × va_E), ws'[k]? = some q → ∃ e : va_E, ws[k]? = some (q.1, e) ∧ rE e q.2
  | [], [], _, k, q, h => by simp at h
  | [], _ :: _, h, _, _, _ => h.elim
  | _ :: _, [], h, _, _, _ => h.elim
  | x :: t, y :: t', h, 0, q, hq => by
    have e : y = q := by simpa using hq
    subst e
    refine ⟨x.2, ?_, h.2.1⟩
    rw [← h.1]
    rfl
  | x :: t, y :: t', h, k + 1, q, hq => by
    obtain ⟨e, h1, h2⟩ := rW.get h.2.2 k q (by simpa using hq)
    exact ⟨e, by simpa using h1, h2⟩
section GBLS
variable {G : gb_G} {X : gb_X} {A : Nat → Prop} {nL : Nat} {Q : State → Prop} {pc : Nat} {lv : List (Nat × Value)} {st : List Value} {ws ws' : va_W} {kc ks : Nat}
theorem l_sim (h : rW ws ws') (k : Wl G X A nL Q pc lv st ws' kc ks) : Wl G X A nL Q pc lv st ws kc ks := fun H locs ls hP hD hS hl =>
  k H locs ls (fun i q hq => by
      obtain ⟨e, h1, h2⟩ := h.get i q hq
      exact h2 _ _ _ _ (hP i _ h1))
    ⟨fun i j p q hp hq z => by
      obtain ⟨e, h1, -⟩ := h.get i p hp
      obtain ⟨e', h2, -⟩ := h.get j q hq
      exact hD.1 i j _ _ h1 h2 z, fun i q hq => by
      obtain ⟨e, h1, -⟩ := h.get i q hq
      exact hD.2 i (q.1, e) h1⟩ hS hl
theorem l_inj {ad : Nat → Nat} {N : Nat} {M : gb_M} (k : (∀ i j : Nat, i < N → j < N → ad i = ad j → i = j) → Wl G X A nL Q pc lv st (gb_pl ad N M) kc ks) : Wl G X A nL Q pc lv st (gb_pl ad N M) kc ks := fun H locs ls hP hD hS hl =>
  k (fun i j hi hj e => hD.1 i j _ _ (gb_pl_get hi) (gb_pl_get hj) e) H locs ls hP hD hS hl
end GBLS
def s0 : Nat → Nat := fun k => if k % 30 = 24 then 6 else 0
def T0 : Tw := (fun _ => 0, fun _ => 0, fun _ => 0, 0, 6, 0, 0)
theorem pgI_s0 (j : Nat) : pgI s0 j = nI 0 := by
  unfold pgI s0
  by_cases h : j % 30 = 24
  · rw [if_pos h, if_pos h]; rfl
  · rw [if_neg h, if_neg h]
theorem in_cut : ∀ j, j < 13 → (upd (upd (upd (upd (upd (upd (upd (upd (upd (upd (upd (upd (upd (fun k => nI ((fun _ => 0) k)) 0 (nI 0)) 1 (nI 5)) 2 (nI 10)) 3 (nI 14)) 4 (nI 18)) 5 (nI 23)) 6 (nI 27)) 7 (nI 30)) 8 (nI 33)) 9 (nI 36)) 10 (nI 42)) 11 (nI 48)) 12 (nI 52)) j = nI (gb_cut j) := by decide +kernel
theorem in_let : ∀ j, j < 52 → (upd (upd (upd (upd (upd (upd (upd (upd (upd (upd (upd (upd (upd (upd (upd (upd (upd (upd (upd (upd (upd (upd (upd (upd (upd (upd (upd (upd (upd (upd (upd (upd (upd (upd (upd (upd (upd (upd (upd (upd (upd (upd (upd (upd (upd (upd (upd (upd (upd (upd (upd (upd (fun k => nI ((fun _ => 0) k)) 0 (nI 112)) 1 (nI 108)) 2 (nI 97)) 3 (nI 105)) 4 (nI 110)) 5 (nI 109)) 6 (nI 97)) 7 (nI 121)) 8 (nI 111)) 9 (nI 114)) 10 (nI 109)) 11 (nI 97)) 12 (nI 105)) 13 (nI 100)) 14 (nI 100)) 15 (nI 101)) 16 (nI 97)) 17 (nI 102)) 18 (nI 115)) 19 (nI 111)) 20 (nI 114)) 21 (nI 114)) 22 (nI 121)) 23 (nI 104)) 24 (nI 111)) 25 (nI 108)) 26 (nI 100)) 27 (nI 97)) 28 (nI 100)) 29 (nI 100)) 30 (nI 97)) 31 (nI 115)) 32 (nI 107)) 33 (nI 116)) 34 (nI 105)) 35 (nI 110)) 36 (nI 99)) 37 (nI 111)) 38 (nI 112)) 39 (nI 112)) 40 (nI 101)) 41 (nI 114)) 42 (nI 115)) 43 (nI 105)) 44 (nI 108)) 45 (nI 118)) 46 (nI 101)) 47 (nI 114)) 48 (nI 105)) 49 (nI 114)) 50 (nI 111)) 51 (nI 110)) j = nI (gb_let j) := by decide +kernel
theorem okT0 : okT T0 := ⟨by decide, fun _ _ => ⟨Nat.zero_le _, Nat.zero_le _, Nat.zero_le _, Nat.zero_le _, Nat.zero_le _, Nat.zero_le _⟩, fun _ _ => ⟨Nat.zero_le _, Nat.zero_le _⟩, by decide, by decide, by decide⟩
theorem okS0 : okS T0 (fun _ => T0) (fun _ => false) (fun _ => 0) 0 0 (fun _ => 0) (fun _ => 0) 0 (fun _ => none) 0 := ⟨okT0, by decide, fun _ _ => ⟨okT0, Nat.zero_le _, fun h => (by cases h)⟩, by decide, fun _ h => absurd h (by omega), by decide, by decide, fun _ h => absurd h (by omega), fun _ _ _ h => (by cases h), by decide⟩
theorem pg00 : pg0 s0 T0 := ⟨by decide, rfl, by decide, rfl, rfl, rfl⟩
/-- the addresses: of the run's cells, behind them the statics' -/
def adW (zs : List Nat) (f : Nat → Nat) : Nat → Nat := fun k => (zs[k]?).getD (f k)
def mW (ws : va_W) : gb_M := fun k => ((ws[k]?).map (fun q => q.2)).getD (.inr (0, []))
abbrev gbG (l : Launch) (D : va_G) (tys : List (ClassId × FieldType)) (ad : Nat → Nat) : gb_G := (l, D, tys, ad, 61, gb_Zs ad)
set_option maxRecDepth 100000 in
set_option maxHeartbeats 4000000 in
theorem law_iL {GG : gb_G} {f : Nat → Nat} {z0 z1 z2 z3 z4 z5 z6 z7 z8 z9 z10 z11 z12 z13 z14 z15 z16 z17 z18 z19 z20 z21 z22 z23 z24 z25 z26 z27 z28 z29 z30 z31 z32 z33 z34 z35 z36 z37 z38 z39 z40 z41 z42 z43 z44 z45 z46 z47 z48 z49 z50 z51 z52 z53 z54 z55 z56 z57 z58 z59 z60 : Nat} (e : gb_ad GG = adW [z0, z1, z2, z3, z4, z5, z6, z7, z8, z9, z10, z11, z12, z13, z14, z15, z16, z17, z18, z19, z20, z21, z22, z23, z24, z25, z26, z27, z28, z29, z30, z31, z32, z33, z34, z35, z36, z37, z38, z39, z40, z41, z42, z43, z44, z45, z46, z47, z48, z49, z50, z51, z52, z53, z54, z55, z56, z57, z58, z59, z60] f) : iL GG (mW [(z0, (.inr (6, [.ref z1, .ref z5, .ref z9, .ref z12, .ref z14, .ref z19, .ref z30, .ref z39, .ref z40, .int (nI 0)]))), (z1, (.inr (5, [.ref z2, .ref z3, .ref z4, .int (nI 0), .int (nI 6), .int (nI 0), .int (nI 0)]))), (z2, (IN GG 24 (fun _ => 0))), (z3, (IN GG 3 (fun _ => 0))), (z4, (IN GG 3 (fun _ => 0))), (z5, (.inr (5, [.ref z6, .ref z7, .ref z8, .int (nI 0), .int (nI 6), .int (nI 0), .int (nI 0)]))), (z6, (IN GG 24 (fun _ => 0))), (z7, (IN GG 3 (fun _ => 0))), (z8, (IN GG 3 (fun _ => 0))), (z9, (.inr (1, [.ref z10, .ref z11, .int (nI 0)]))), (z10, (IN GG 4 (fun _ => 0))), (z11, (IN GG 4 (fun _ => 0))), (z12, (.inr (4, [.ref z13, .int (nI 0), .int (nI 0), .int (nI 1), .int (nI 0), .int (nI 0)]))), (z13, (IN GG 160 (fun _ => 0))), (z14, (.inr (2, [.ref z15, .int (nI 0), .int (nI 0), .int (nI 0), .int (nI 0), .int (nI 0), .int (nI 0)]))), (z15, (.inr (5, [.ref z16, .ref z17, .ref z18, .int (nI 0), .int (nI 6), .int (nI 0), .int (nI 0)]))), (z16, (IN GG 24 (fun _ => 0))), (z17, (IN GG 3 (fun _ => 0))), (z18, (IN GG 3 (fun _ => 0))), (z19, (.inr (0, [.ref z20, .ref z21, .int (nI 0), .int (nI 0), .int (-4), .ref z22, .ref z23, .ref z24, .ref z25, .ref z26, .ref z27, .ref z28, .ref z29, .int (nI 0), .int (nI 0)]))), (z20, (IN GG 6 (fun _ => 0))), (z21, (IN GG 6 (fun _ => 0))), (z22, (IN GG 4 (fun _ => 0))), (z23, (IN GG 4 (fun _ => 0))), (z24, (IN GG 90 (fun _ => 0))), (z25, (IN GG 40 (fun _ => 0))), (z26, (IN GG 4 (fun _ => 0))), (z27, (IN GG 4 (fun _ => 0))), (z28, (IN GG 3 (fun _ => 0))), (z29, (IN GG 4 (fun _ => 0))), (z30, TA GG), (z31, (.inr (5, [.ref z32, .ref z33, .ref z34, .int (nI 0), .int (nI 6), .int (nI 0), .int (nI 0)]))), (z32, (IN GG 24 (fun _ => 0))), (z33, (IN GG 3 (fun _ => 0))), (z34, (IN GG 3 (fun _ => 0))), (z35, (.inr (5, [.ref z36, .ref z37, .ref z38, .int (nI 0), .int (nI 6), .int (nI 0), .int (nI 0)]))), (z36, (IN GG 24 (fun _ => 0))), (z37, (IN GG 3 (fun _ => 0))), (z38, (IN GG 3 (fun _ => 0))), (z39, (ZB GG 2 (fun _ => false))), (z40, SA GG), (z41, (.inr (3, [.ref z42, .int (-1), .int (nI 0), .int (nI 0)]))), (z42, (IN GG 40 (fun _ => 0))), (z43, (.inr (3, [.ref z44, .int (-1), .int (nI 0), .int (nI 0)]))), (z44, (IN GG 40 (fun _ => 0))), (z45, (.inr (3, [.ref z46, .int (-1), .int (nI 0), .int (nI 0)]))), (z46, (IN GG 40 (fun _ => 0))), (z47, (.inr (3, [.ref z48, .int (-1), .int (nI 0), .int (nI 0)]))), (z48, (IN GG 40 (fun _ => 0))), (z49, (.inr (7, [.ref z50, .int 0, .ref z51, .int 0, .int 0, .int 0, .int 0, .int 0, .ref z52, .int 0, .int 0, .int 0, .int 0, .int 0, .int 0, .int 0, .int 0, .ref z53, .ref z54, .int 0, .int 0, .int (-4), .int 0, .ref z55, .int 0, .ref z56, .int 0, .ref z57, .ref z58, .ref z59, .ref z60, .int 0]))), (z50, IA GG 150 (pgI s0)), (z51, (IN GG 30 (fun _ => 0))), (z52, (IN GG 160 (fun _ => 0))), (z53, IN GG 13 gb_cut), (z54, IN GG 52 gb_let), (z55, (IN GG 12 (fun _ => 0))), (z56, (IN GG 90 (fun _ => 0))), (z57, (ZB GG 2 (fun _ => false))), (z58, IA GG 4 (fun _ => -4)), (z59, (IN GG 4 (fun _ => 0))), (z60, (IN GG 160 (fun _ => 0)))]) := by
  have e' : ∀ k, gb_ad GG k = adW [z0, z1, z2, z3, z4, z5, z6, z7, z8, z9, z10, z11, z12, z13, z14, z15, z16, z17, z18, z19, z20, z21, z22, z23, z24, z25, z26, z27, z28, z29, z30, z31, z32, z33, z34, z35, z36, z37, z38, z39, z40, z41, z42, z43, z44, z45, z46, z47, z48, z49, z50, z51, z52, z53, z54, z55, z56, z57, z58, z59, z60] f k := fun k => by rw [e]
  refine ⟨T0, fun _ => T0, fun _ => false, fun _ => 0, 0, 0, fun _ => 0, fun _ => 0, 0, fun _ => none, fun _ _ => nI 0, 0, ⟨?_, ?_, okS0, ⟨T0, ?_⟩, ⟨fun _ => 0, fun _ => 0, 0, ?_, fun _ _ => Nat.zero_le _⟩, ⟨0, 1, 0, 0, ?_, by decide, by decide⟩, ⟨0, 0, 0, 0, false, T0, ?_, ?_⟩, ⟨0, none, fun _ => 0, fun _ => 0, fun _ => 0, fun _ => 0, fun _ => 0, fun _ => 0, fun _ => nI 0, fun _ => nI 0, 0, false, ?_⟩, ⟨rfl, ?_, ?_⟩, rfl, ⟨rfl, fun k hk => ⟨0, by decide, ?_⟩⟩⟩, ⟨s0, fun _ => 0, fun _ => 0, fun _ => nI 0, fun _ => nI 0, fun _ => -4, fun _ => nI 0, 0, 0, 0, 0, 0, 0, 0, 0, 0, 0, 0, 0, 0, ?_, rfl, rfl, rfl, rfl, rfl, rfl, rfl, rfl, rfl, rfl, rfl, by decide, pg00, fun _ _ h => (by cases h), fun _ h => absurd h (by omega), fun _ _ => rfl, fun _ _ _ h => (by cases h), fun _ _ _ _ => rfl⟩⟩
  · unfold isB; simp only [e']; rfl
  · unfold isT Tob; simp only [e']; exact ⟨rfl, rfl, rfl, rfl⟩
  · unfold isT Tob; simp only [e']; exact ⟨rfl, rfl, rfl, rfl⟩
  · unfold isM; simp only [e']; exact ⟨rfl, rfl, rfl⟩
  · unfold isP; simp only [e']; exact ⟨rfl, rfl⟩
  · unfold isC; simp only [e']; rfl
  · unfold isT Tob; simp only [e']; exact ⟨rfl, rfl, rfl, rfl⟩
  · unfold isG; simp only [e']; exact ⟨rfl, rfl, rfl, rfl, rfl, rfl, rfl, rfl, rfl, rfl, rfl⟩
  · unfold isT Tob; simp only [e']; exact ⟨rfl, rfl, rfl, rfl⟩
  · unfold isT Tob; simp only [e']; exact ⟨rfl, rfl, rfl, rfl⟩
  · match k, hk with
    | 0, _ => unfold isS; simp only [e']; exact ⟨rfl, rfl⟩
    | 1, _ => unfold isS; simp only [e']; exact ⟨rfl, rfl⟩
    | 2, _ => unfold isS; simp only [e']; exact ⟨rfl, rfl⟩
    | 3, _ => unfold isS; simp only [e']; exact ⟨rfl, rfl⟩
    | k + 4, h => exact absurd h (by omega)
  · simp only [e']; rfl
