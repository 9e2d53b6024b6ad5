/-! THE MODEL'S CELLS: 49 its object, 50 state, 51 readPage, 52 tape, 53 cuts, 54 letters, 55 seen, 56 tells, 57 isKept, 58 lanes, 59 lengths, 60 cells -/
/-- a page holds the note that is asked less 6 -/
def pgI (s : Nat → Nat) : Nat → Int32 := fun k => if k % 30 = 24 then nI (s k) - nI 6 else nI (s k)
theorem pgI_n {s : Nat → Nat} {k : Nat} (h : ¬ k % 30 = 24) : pgI s k = nI (s k) := if_neg h
theorem pgI_q {s : Nat → Nat} {k : Nat} (h : k % 30 = 24) : pgI s k = nI (s k) - nI 6 := if_pos h
theorem pgI_nv {i v : Nat} (h : ¬ i % 30 = 24) : nI v = pgI (fun _ => v) i := (if_neg h).symm
theorem pgI_qv {i v : Nat} (h : i % 30 = 24) : nI v - nI 6 = pgI (fun _ => v) i := (if_pos h).symm
theorem pgI_cv {s : Nat → Nat} {i j : Nat} (h : i % 30 = j % 30) : pgI s j = pgI (fun _ => s j) i := by
  unfold pgI
  rw [h]
theorem pgI_up {s : Nat → Nat} {i v : Nat} : upd (pgI s) i (pgI (fun _ => v) i) = pgI (upN s i v) := by
  funext k
  simp only [upd, pgI, upN]
  by_cases h : k = i
  · subst h
    simp
  · rw [if_neg h, if_neg h]
section GBP
variable {G : gb_G} {X : gb_X} {cc : ByteArray} {nL : Nat} {ret : Option FieldType} {own : String} {d : Nat} {Q : Option Value → gb_M → Prop} {pc n : Nat} {lv lv' : List (Nat × Value)} {st : List Value} {M : gb_M}
theorem w_ialdQ (O : gb_Ok G X cc nL ret own d) {a z : Nat} {s : Nat → Nat} {i : Nat} (hd : decode cc pc = .ok (.iaload, 1)) (hg : gb_ty G) (haN : a < gb_N G) (ha : M a = IA G z (pgI s)) (hi : i < z) (hz : z < 2 ^ 31) (hn : pc + 1 = n) (k : Wm G X nL Q n lv (.int (pgI s i) :: st) M) : Wm G X nL Q pc lv (.int (nI i) :: .ref (gb_ad G a) :: st) M :=
  w_ialdA O hd hg haN ha hi hz hn k
theorem w_ialdP (O : gb_Ok G X cc nL ret own d) {a z : Nat} {s : Nat → Nat} {i v : Nat} (hd : decode cc pc = .ok (.iaload, 1)) (hg : gb_ty G) (haN : a < gb_N G) (ha : M a = IA G z (pgI s)) (hi : i < z) (hz : z < 2 ^ 31) (h24 : ¬ i % 30 = 24) (hv : s i = v) (hn : pc + 1 = n) (k : Wm G X nL Q n lv (.int (nI v) :: st) M) : Wm G X nL Q pc lv (.int (nI i) :: .ref (gb_ad G a) :: st) M :=
  w_ialdA O hd hg haN ha hi hz hn (w_top _ (by rw [pgI_n h24, hv]) k)
theorem w_iastP (O : gb_Ok G X cc nL ret own d) {a z : Nat} {s : Nat → Nat} {i v : Nat} {x : Int32} (hd : decode cc pc = .ok (.iastore, 1)) (hg : gb_ty G) (haN : a < gb_N G) (ha : M a = IA G z (pgI s)) (hi : i < z) (hz : z < 2 ^ 31) (hx : x = pgI (fun _ => v) i) (hn : pc + 1 = n) (k : Wm G X nL Q n lv st (va_up M a (IA G z (pgI (upN s i v))))) : Wm G X nL Q pc lv (.int x :: .int (nI i) :: .ref (gb_ad G a) :: st) M := by
  subst hx
  exact w_iastA O hd hg haN ha hi hz hn (by rw [pgI_up]; exact k)
end GBP
/-- a page is a town: kinds, guilts, metals, deeds, holds, the bits of those with remorse, added, asked, least, struck, worn -/
def pg0 (s : Nat → Nat) (T : Tw) : Prop := (∀ g, g < 4 → s g = T.1 (g * 6 + 0) ∧ s (4 + g) = T.1 (g * 6 + 1) ∧ s (8 + g) = T.1 (g * 6 + 2) ∧ s (12 + g) = T.1 (g * 6 + 3) ∧ s (16 + g) = T.1 (g * 6 + 5)) ∧ s 20 = sBits (fun g => decide (0 < T.1 (g * 6 + 4))) T.2.2.2.1 ∧ (∀ m, m < 3 → s (21 + m) = T.2.1 m ∧ s (27 + m) = T.2.2.1 m) ∧ s 24 = T.2.2.2.2.1 ∧ s 25 = T.2.2.2.2.2.1 ∧ s 26 = T.2.2.2.2.2.2
def pgO (s : Nat → Nat) (o : Nat) (T : Tw) : Prop := pg0 (fun k => s (o + k)) T
theorem pg0_cong {s s2 : Nat → Nat} {T : Tw} (h : pg0 s T) (e : ∀ k, k < 30 → s2 k = s k) : pg0 s2 T := by
  obtain ⟨h1, h2, h3, h4, h5, h6⟩ := h
  refine ⟨fun g hg => ?_, ?_, fun m hm => ?_, ?_, ?_, ?_⟩
  · have := h1 g hg
    rw [e g (by omega), e (4 + g) (by omega), e (8 + g) (by omega), e (12 + g) (by omega), e (16 + g) (by omega)]
    exact this
  · rw [e 20 (by omega)]; exact h2
  · rw [e (21 + m) (by omega), e (27 + m) (by omega)]; exact h3 m hm
  · rw [e 24 (by omega)]; exact h4
  · rw [e 25 (by omega)]; exact h5
  · rw [e 26 (by omega)]; exact h6
theorem pgO_cong {s s2 : Nat → Nat} {o : Nat} {T : Tw} (h : pgO s o T) (e : ∀ k, o ≤ k → k < o + 30 → s2 k = s k) : pgO s2 o T := pg0_cong h (fun k hk => e (o + k) (by omega) (by omega))
theorem sBits_so {T : Tw} {i v : Nat} (h : ∀ g, ¬ g * 6 + 4 = i) (n : Nat) : sBits (fun g => decide (0 < upN T.1 i v (g * 6 + 4))) n = sBits (fun g => decide (0 < T.1 (g * 6 + 4))) n := sBits_cong (fun k _ => by rw [upN_ne _ _ (h k)])
theorem pg_kd {s : Nat → Nat} {T : Tw} {g v : Nat} (h : pg0 s T) (hg : g < 4) : pg0 (upN s g v) (upN T.1 (g * 6 + 0) v, T.2) := by
  obtain ⟨h1, h2, h3, h4, h5, h6⟩ := h
  refine ⟨fun q hq => ?_, ?_, fun m hm => ?_, ?_, ?_, ?_⟩
  · have := h1 q hq
    simp only [upN]
    refine ⟨?_, ?_, ?_, ?_, ?_⟩ <;> split <;> split <;> omega
  · rw [upN_ne _ _ (by omega), h2]; exact (sBits_so (fun q => by omega) _).symm
  · rw [upN_ne _ _ (by omega), upN_ne _ _ (by omega)]; exact h3 m hm
  · rw [upN_ne _ _ (by omega)]; exact h4
  · rw [upN_ne _ _ (by omega)]; exact h5
  · rw [upN_ne _ _ (by omega)]; exact h6
theorem pg_gu {s : Nat → Nat} {T : Tw} {g v : Nat} (h : pg0 s T) (hg : g < 4) : pg0 (upN s (4 + g) v) (upN T.1 (g * 6 + 1) v, T.2) := by
  obtain ⟨h1, h2, h3, h4, h5, h6⟩ := h
  refine ⟨fun q hq => ?_, ?_, fun m hm => ?_, ?_, ?_, ?_⟩
  · have := h1 q hq
    simp only [upN]
    refine ⟨?_, ?_, ?_, ?_, ?_⟩ <;> split <;> split <;> omega
  · rw [upN_ne _ _ (by omega), h2]; exact (sBits_so (fun q => by omega) _).symm
  · rw [upN_ne _ _ (by omega), upN_ne _ _ (by omega)]; exact h3 m hm
  · rw [upN_ne _ _ (by omega)]; exact h4
  · rw [upN_ne _ _ (by omega)]; exact h5
  · rw [upN_ne _ _ (by omega)]; exact h6
theorem pg_me {s : Nat → Nat} {T : Tw} {g v : Nat} (h : pg0 s T) (hg : g < 4) : pg0 (upN s (8 + g) v) (upN T.1 (g * 6 + 2) v, T.2) := by
  obtain ⟨h1, h2, h3, h4, h5, h6⟩ := h
  refine ⟨fun q hq => ?_, ?_, fun m hm => ?_, ?_, ?_, ?_⟩
  · have := h1 q hq
    simp only [upN]
    refine ⟨?_, ?_, ?_, ?_, ?_⟩ <;> split <;> split <;> omega
  · rw [upN_ne _ _ (by omega), h2]; exact (sBits_so (fun q => by omega) _).symm
  · rw [upN_ne _ _ (by omega), upN_ne _ _ (by omega)]; exact h3 m hm
  · rw [upN_ne _ _ (by omega)]; exact h4
  · rw [upN_ne _ _ (by omega)]; exact h5
  · rw [upN_ne _ _ (by omega)]; exact h6
theorem pg_de {s : Nat → Nat} {T : Tw} {g v : Nat} (h : pg0 s T) (hg : g < 4) : pg0 (upN s (12 + g) v) (upN T.1 (g * 6 + 3) v, T.2) := by
  obtain ⟨h1, h2, h3, h4, h5, h6⟩ := h
  refine ⟨fun q hq => ?_, ?_, fun m hm => ?_, ?_, ?_, ?_⟩
  · have := h1 q hq
    simp only [upN]
    refine ⟨?_, ?_, ?_, ?_, ?_⟩ <;> split <;> split <;> omega
  · rw [upN_ne _ _ (by omega), h2]; exact (sBits_so (fun q => by omega) _).symm
  · rw [upN_ne _ _ (by omega), upN_ne _ _ (by omega)]; exact h3 m hm
  · rw [upN_ne _ _ (by omega)]; exact h4
  · rw [upN_ne _ _ (by omega)]; exact h5
  · rw [upN_ne _ _ (by omega)]; exact h6
theorem pg_ho {s : Nat → Nat} {T : Tw} {g v : Nat} (h : pg0 s T) (hg : g < 4) : pg0 (upN s (16 + g) v) (upN T.1 (g * 6 + 5) v, T.2) := by
  obtain ⟨h1, h2, h3, h4, h5, h6⟩ := h
  refine ⟨fun q hq => ?_, ?_, fun m hm => ?_, ?_, ?_, ?_⟩
  · have := h1 q hq
    simp only [upN]
    refine ⟨?_, ?_, ?_, ?_, ?_⟩ <;> split <;> split <;> omega
  · rw [upN_ne _ _ (by omega), h2]; exact (sBits_so (fun q => by omega) _).symm
  · rw [upN_ne _ _ (by omega), upN_ne _ _ (by omega)]; exact h3 m hm
  · rw [upN_ne _ _ (by omega)]; exact h4
  · rw [upN_ne _ _ (by omega)]; exact h5
  · rw [upN_ne _ _ (by omega)]; exact h6
theorem pg_ad {s : Nat → Nat} {T : Tw} {m v : Nat} (h : pg0 s T) (hm : m < 3) : pg0 (upN s (21 + m) v) (T.1, upN T.2.1 m v, T.2.2) := by
  obtain ⟨h1, h2, h3, h4, h5, h6⟩ := h
  refine ⟨fun q hq => ?_, ?_, fun k hk => ?_, ?_, ?_, ?_⟩
  · have := h1 q hq
    simp only [upN]
    refine ⟨?_, ?_, ?_, ?_, ?_⟩ <;> split <;> omega
  · rw [upN_ne _ _ (by omega), h2]
  · have := h3 k hk
    simp only [upN]
    refine ⟨?_, ?_⟩
    · split <;> split <;> omega
    · split <;> omega
  · rw [upN_ne _ _ (by omega)]; exact h4
  · rw [upN_ne _ _ (by omega)]; exact h5
  · rw [upN_ne _ _ (by omega)]; exact h6
theorem pg_wo {s : Nat → Nat} {T : Tw} {m v : Nat} (h : pg0 s T) (hm : m < 3) : pg0 (upN s (27 + m) v) (T.1, T.2.1, upN T.2.2.1 m v, T.2.2.2) := by
  obtain ⟨h1, h2, h3, h4, h5, h6⟩ := h
  refine ⟨fun q hq => ?_, ?_, fun k hk => ?_, ?_, ?_, ?_⟩
  · have := h1 q hq
    simp only [upN]
    refine ⟨?_, ?_, ?_, ?_, ?_⟩ <;> split <;> omega
  · rw [upN_ne _ _ (by omega), h2]
  · have := h3 k hk
    simp only [upN]
    refine ⟨?_, ?_⟩
    · split <;> omega
    · split <;> split <;> omega
  · rw [upN_ne _ _ (by omega)]; exact h4
  · rw [upN_ne _ _ (by omega)]; exact h5
  · rw [upN_ne _ _ (by omega)]; exact h6
theorem pg_lo {s s2 : Nat → Nat} {T U : Tw} (h : pg0 s T) (e1 : U.1 = T.1) (e2 : U.2.1 = T.2.1) (e3 : U.2.2.1 = T.2.2.1) (e4 : U.2.2.2.1 = T.2.2.2.1) (e : ∀ k, k < 30 → ¬ (24 ≤ k ∧ k < 27) → s2 k = s k) (a : s2 24 = U.2.2.2.2.1) (b : s2 25 = U.2.2.2.2.2.1) (c : s2 26 = U.2.2.2.2.2.2) : pg0 s2 U := by
  obtain ⟨h1, h2, h3, h4, h5, h6⟩ := h
  refine ⟨fun q hq => ?_, ?_, fun k hk => ?_, a, b, c⟩
  · rw [e1, e q (by omega) (by omega), e (4 + q) (by omega) (by omega), e (8 + q) (by omega) (by omega), e (12 + q) (by omega) (by omega), e (16 + q) (by omega) (by omega)]
    exact h1 q hq
  · rw [e1, e4, e 20 (by omega) (by omega)]; exact h2
  · rw [e2, e3, e (21 + k) (by omega) (by omega), e (27 + k) (by omega) (by omega)]; exact h3 k hk
theorem pg_as {s : Nat → Nat} {T : Tw} {v : Nat} (h : pg0 s T) : pg0 (upN s 24 v) (T.1, T.2.1, T.2.2.1, T.2.2.2.1, v, T.2.2.2.2.2) := pg_lo h rfl rfl rfl rfl (fun k hk h2 => upN_ne _ _ (by omega)) (upN_self _ _ _) ((upN_ne _ _ (by omega)).trans h.2.2.2.2.1) ((upN_ne _ _ (by omega)).trans h.2.2.2.2.2)
theorem pg_le {s : Nat → Nat} {T : Tw} {v : Nat} (h : pg0 s T) : pg0 (upN s 25 v) (T.1, T.2.1, T.2.2.1, T.2.2.2.1, T.2.2.2.2.1, v, T.2.2.2.2.2.2) := pg_lo h rfl rfl rfl rfl (fun k hk h2 => upN_ne _ _ (by omega)) ((upN_ne _ _ (by omega)).trans h.2.2.2.1) (upN_self _ _ _) ((upN_ne _ _ (by omega)).trans h.2.2.2.2.2)
theorem pg_st {s : Nat → Nat} {T : Tw} {v : Nat} (h : pg0 s T) : pg0 (upN s 26 v) (T.1, T.2.1, T.2.2.1, T.2.2.2.1, T.2.2.2.2.1, T.2.2.2.2.2.1, v) := pg_lo h rfl rfl rfl rfl (fun k hk h2 => upN_ne _ _ (by omega)) ((upN_ne _ _ (by omega)).trans h.2.2.2.1) ((upN_ne _ _ (by omega)).trans h.2.2.2.2.1) (upN_self _ _ _)
theorem sB_cases {P : Nat → Prop} {n : Nat} (h : n ≤ 4) (h0 : P 0) (h1 : P 1) (h2 : P 2) (h3 : P 3) (h4 : P 4) : P n := by
  rcases (show n = 0 ∨ n = 1 ∨ n = 2 ∨ n = 3 ∨ n = 4 by omega) with e | e | e | e | e <;> subst e <;> assumption
theorem hasB_sB {p : Nat → Bool} {n g : Nat} (hn : n ≤ 4) (hg : g < n) : hasB (sBits p n) g = p g := by
  rcases (show n = 1 ∨ n = 2 ∨ n = 3 ∨ n = 4 by omega) with e | e | e | e <;> subst e
  · rcases (show g = 0 by omega) with e; subst e
    simp only [sBits]; cases p 0 <;> rfl
  · rcases (show g = 0 ∨ g = 1 by omega) with e | e <;> subst e <;> simp only [sBits] <;> cases p 0 <;> cases p 1 <;> rfl
  · rcases (show g = 0 ∨ g = 1 ∨ g = 2 by omega) with e | e | e <;> subst e <;> simp only [sBits] <;> cases p 0 <;> cases p 1 <;> cases p 2 <;> rfl
  · rcases (show g = 0 ∨ g = 1 ∨ g = 2 ∨ g = 3 by omega) with e | e | e | e <;> subst e <;> simp only [sBits] <;> cases p 0 <;> cases p 1 <;> cases p 2 <;> cases p 3 <;> rfl
/-- the bits with that of g as c -/
def sbU (b g c : Nat) : Nat := b - b / 2 ^ g % 2 * 2 ^ g + c * 2 ^ g
theorem sbU_I : ∀ b, b < 16 → ∀ g, g < 4 → ∀ c, c < 2 → (nI b &&& ((nI 1 <<< (nI g &&& 31)) ^^^ (-1))) ||| (nI c <<< (nI g &&& 31)) = nI (sbU b g c) := by decide +kernel
theorem sbU_ok {p : Nat → Bool} {n g c : Nat} (hn : n ≤ 4) (hg : g < n) (hc : c < 2) : sbU (sBits p n) g c = sBits (fun k => if k = g then decide (0 < c) else p k) n := by
  rcases (show c = 0 ∨ c = 1 by omega) with ec | ec <;> subst ec <;> rcases (show n = 1 ∨ n = 2 ∨ n = 3 ∨ n = 4 by omega) with e | e | e | e <;> subst e
  · rcases (show g = 0 by omega) with e; subst e
    simp only [sBits]; cases p 0 <;> rfl
  · rcases (show g = 0 ∨ g = 1 by omega) with e | e <;> subst e <;> simp only [sBits] <;> cases p 0 <;> cases p 1 <;> rfl
  · rcases (show g = 0 ∨ g = 1 ∨ g = 2 by omega) with e | e | e <;> subst e <;> simp only [sBits] <;> cases p 0 <;> cases p 1 <;> cases p 2 <;> rfl
  · rcases (show g = 0 ∨ g = 1 ∨ g = 2 ∨ g = 3 by omega) with e | e | e | e <;> subst e <;> simp only [sBits] <;> cases p 0 <;> cases p 1 <;> cases p 2 <;> cases p 3 <;> rfl
  · rcases (show g = 0 by omega) with e; subst e
    simp only [sBits]; cases p 0 <;> rfl
  · rcases (show g = 0 ∨ g = 1 by omega) with e | e <;> subst e <;> simp only [sBits] <;> cases p 0 <;> cases p 1 <;> rfl
  · rcases (show g = 0 ∨ g = 1 ∨ g = 2 by omega) with e | e | e <;> subst e <;> simp only [sBits] <;> cases p 0 <;> cases p 1 <;> cases p 2 <;> rfl
  · rcases (show g = 0 ∨ g = 1 ∨ g = 2 ∨ g = 3 by omega) with e | e | e | e <;> subst e <;> simp only [sBits] <;> cases p 0 <;> cases p 1 <;> cases p 2 <;> cases p 3 <;> rfl
theorem pg_so {s : Nat → Nat} {T : Tw} {g c : Nat} (h : pg0 s T) (hn : T.2.2.2.1 ≤ 4) (hg : g < T.2.2.2.1) (hc : c < 2) : pg0 (upN s 20 (sbU (s 20) g c)) (upN T.1 (g * 6 + 4) c, T.2) := by
  obtain ⟨h1, h2, h3, h4, h5, h6⟩ := h
  refine ⟨fun q hq => ?_, ?_, fun m hm => ?_, ?_, ?_, ?_⟩
  · have := h1 q hq
    simp only [upN]
    refine ⟨?_, ?_, ?_, ?_, ?_⟩ <;> split <;> split <;> omega
  · rw [upN_self, h2, sbU_ok hn hg hc]
    refine sBits_cong (fun k hk => ?_)
    show _ = decide (0 < upN T.1 (g * 6 + 4) c (k * 6 + 4))
    by_cases e : k = g
    · rw [if_pos e, e, upN_self]
    · rw [if_neg e, upN_ne _ _ (by omega)]
  · rw [upN_ne _ _ (by omega), upN_ne _ _ (by omega)]; exact h3 m hm
  · rw [upN_ne _ _ (by omega)]; exact h4
  · rw [upN_ne _ _ (by omega)]; exact h5
  · rw [upN_ne _ _ (by omega)]; exact h6
theorem pg_hs {s : Nat → Nat} {T : Tw} (h : pg0 s T) (hn : T.2.2.2.1 ≤ 4) {g : Nat} (hg : g < T.2.2.2.1) : hasB (s 20) g = decide (0 < T.1 (g * 6 + 4)) := by
  rw [h.2.1, hasB_sB hn hg]
theorem pg_b16 {s : Nat → Nat} {T : Tw} (h : pg0 s T) (hn : T.2.2.2.1 ≤ 4) : s 20 < 16 := by
  rw [h.2.1]
  exact Nat.lt_of_lt_of_le (sBits_lt _ _) (pow4 hn)
/-- a page copied -/
def cpS (s : Nat → Nat) (o q : Nat) : Nat → Nat := fun k => if q ≤ k ∧ k < q + 30 then s (k - q + o) else s k
theorem cpS_in {s : Nat → Nat} {o q k : Nat} (h : k < 30) : cpS s o q (q + k) = s (o + k) := by
  unfold cpS
  rw [if_pos ⟨by omega, by omega⟩, show q + k - q + o = o + k by omega]
theorem cpS_out {s : Nat → Nat} {o q k : Nat} (h : k < q ∨ q + 30 ≤ k) : cpS s o q k = s k := if_neg (by omega)
theorem pg_cp {s : Nat → Nat} {T : Tw} (h : pg0 s T) {q : Nat} (hq : 30 ≤ q) : pg0 (cpS s 0 q) T := pg0_cong h (fun k hk => cpS_out (by omega))
theorem pg_bk {s s2 : Nat → Nat} (h : ∀ k, 30 ≤ k → k < 150 → s2 k = cpS s 0 120 k) : ∀ k, k < 120 → cpS s2 120 0 k = s k := fun k hk => by
  by_cases e : k < 30
  · have e1 := cpS_in (s := s2) (o := 120) (q := 0) e
    rw [Nat.zero_add] at e1
    have e2 := cpS_in (s := s) (o := 0) (q := 120) e
    rw [Nat.zero_add] at e2
    rw [e1, h (120 + k) (by omega) (by omega), e2]
  · rw [cpS_out (by omega), h k (by omega) (by omega), cpS_out (by omega)]
/-- what one gives where some are let off, some lie, and of one it is told what he gives -/
def gGv (T : Tw) (lo li : Nat) (to : Option Nat) (tm g : Nat) : Nat := if hasB lo g = true then 0 else if hasB li g = true then (if to = some g then tm else tGives T g) / 2 else if to = some g then tm else tGives T g
theorem gGv_0 (T : Tw) (tm : Nat) : gGv T 0 0 none tm = tGives T := by
  funext g
  unfold gGv
  have e : hasB 0 g = false := by simp [hasB]
  rw [e]
  rfl
theorem okP_gGv {T : Tw} (ok : okT T) (lo li : Nat) {to : Option Nat} {tm : Nat} (htm : tm ≤ 40) : okP (gGv T lo li to tm) := fun g hg => by
  have h := tGives_le ok hg
  unfold gGv
  repeat' split
  all_goals omega
/-- the model's object: what its fields hold that count for a town -/
def isV (G : gb_G) (M : gb_M) (s : Nat → Nat) (T : Tw) (lo li : Nat) (to : Option Nat) (tm : Nat) : Prop :=
  M 50 = IA G 150 (pgI s) ∧ pg0 s T ∧ ∃ x3 x4 x5 x6 x7 x9 x10 x11 x12 x13 x14 x15 x16 x24 x26 x31 : Int32,
  M 49 = .inr (7, [.ref (gb_ad G 50), .int (nI T.2.2.2.1), .ref (gb_ad G 51), .int x3, .int x4, .int x5, .int x6, .int x7, .ref (gb_ad G 52), .int x9, .int x10, .int x11, .int x12, .int x13, .int x14, .int x15, .int x16, .ref (gb_ad G 53), .ref (gb_ad G 54), .int (nI lo), .int (nI li), .int (oI to), .int (nI tm), .ref (gb_ad G 55), .int x24, .ref (gb_ad G 56), .int x26, .ref (gb_ad G 57), .ref (gb_ad G 58), .ref (gb_ad G 59), .ref (gb_ad G 60), .int x31])
def gb_cut : Nat → Nat := fun j => [0, 5, 10, 14, 18, 23, 27, 30, 33, 36, 42, 48, 52].getD j 0
def gb_let : Nat → Nat := fun j => [112, 108, 97, 105, 110, 109, 97, 121, 111, 114, 109, 97, 105, 100, 100, 101, 97, 102, 115, 111, 114, 114, 121, 104, 111, 108, 100, 97, 100, 100, 97, 115, 107, 116, 105, 110, 99, 111, 112, 112, 101, 114, 115, 105, 108, 118, 101, 114, 105, 114, 111, 110].getD j 0
def laM (o : Option (Nat × Nat)) : Int32 := match o with
  | none => -4
  | some q => nI q.1
def isMW (G : gb_G) (M : gb_M) (T : Tw) (im : Nat → Tw) (kp : Nat → Bool) (bs : Nat → Nat) (ln fa : Nat) (st sf : Nat → Nat) (sn : Nat) (sh : Sh) (sc : Nat → Nat → Int32) (tn : Nat) : Prop :=
  ∃ (s se le : Nat → Nat) (rp te la ce : Nat → Int32) (tm : Nat) (x3 x4 x5 x6 x7 x11 x12 x13 x14 x15 x16 x26 : Int32),
  M 49 = .inr (7, [.ref (gb_ad G 50), .int (nI T.2.2.2.1), .ref (gb_ad G 51), .int x3, .int x4, .int x5, .int x6, .int x7, .ref (gb_ad G 52), .int (nI ln), .int (nI fa), .int x11, .int x12, .int x13, .int x14, .int x15, .int x16, .ref (gb_ad G 53), .ref (gb_ad G 54), .int (nI 0), .int (nI 0), .int (oI none), .int (nI tm), .ref (gb_ad G 55), .int (nI sn), .ref (gb_ad G 56), .int x26, .ref (gb_ad G 57), .ref (gb_ad G 58), .ref (gb_ad G 59), .ref (gb_ad G 60), .int (nI tn)]) ∧
  M 50 = IA G 150 (pgI s) ∧ M 51 = IA G 30 rp ∧ M 52 = IN G 160 bs ∧ M 53 = IN G 13 gb_cut ∧ M 54 = IN G 52 gb_let ∧ M 55 = IN G 12 se ∧ M 56 = IA G 90 te ∧ M 57 = ZB G 2 kp ∧ M 58 = IA G 4 la ∧ M 59 = IN G 4 le ∧ M 60 = IA G 160 ce ∧
  tm ≤ 40 ∧ pg0 s T ∧ (∀ k, k < 2 → kp k = true → pgO s (30 * (k + 1)) (im k)) ∧ (∀ k, k < sn → se (2 * k) = st k ∧ se (2 * k + 1) = sf k) ∧ (∀ k, k < 4 → la k = laM (sh k)) ∧ (∀ k, k < 4 → ∀ q, sh k = some q → le k = q.2) ∧ ∀ k, k < 4 → ∀ i, i < 40 → ce (40 * k + i) = sc k i
theorem isMW.kp {G : gb_G} {M M' : gb_M} {T : Tw} {im : Nat → Tw} {kp : Nat → Bool} {bs : Nat → Nat} {ln fa : Nat} {st sf : Nat → Nat} {sn : Nat} {sh : Sh} {sc : Nat → Nat → Int32} {tn : Nat} (h : isMW G M T im kp bs ln fa st sf sn sh sc tn) (e : kpM M M' 49 60) : isMW G M' T im kp bs ln fa st sf sn sh sc tn := by
  obtain ⟨s, se, le, rp, te, la, ce, tm, x3, x4, x5, x6, x7, x11, x12, x13, x14, x15, x16, x26, h49, h50, h51, h52, h53, h54, h55, h56, h57, h58, h59, h60, hr⟩ := h
  exact ⟨s, se, le, rp, te, la, ce, tm, x3, x4, x5, x6, x7, x11, x12, x13, x14, x15, x16, x26, (e 49 (by omega) (by omega)).trans h49, (e 50 (by omega) (by omega)).trans h50, (e 51 (by omega) (by omega)).trans h51, (e 52 (by omega) (by omega)).trans h52, (e 53 (by omega) (by omega)).trans h53, (e 54 (by omega) (by omega)).trans h54, (e 55 (by omega) (by omega)).trans h55, (e 56 (by omega) (by omega)).trans h56, (e 57 (by omega) (by omega)).trans h57, (e 58 (by omega) (by omega)).trans h58, (e 59 (by omega) (by omega)).trans h59, (e 60 (by omega) (by omega)).trans h60, hr⟩
/-- the model's test of a range is over longs -/
theorem in_64 {x y : Int32} : x.toInt64 < y.toInt64 ↔ x < y := by
  rw [Int64.lt_iff_toInt_lt, Int32.lt_iff_toInt_lt, Int32.toInt_toInt64, Int32.toInt_toInt64]
/-- is g's deed done by o too -/
def tAlk (T : Tw) (g : Nat) : Nat → Bool := fun o => decide (T.1 (o * 6 + 3) = T.1 (g * 6 + 3))
theorem tAlk_cnt {T : Tw} {g : Nat} : ∀ n, sCnt (tAlk T g) n = sCnt (tOth T g) n + if g < n then 1 else 0
  | 0 => rfl
  | n + 1 => by
    simp only [sCnt]
    rw [tAlk_cnt n]
    by_cases e : g = n
    · subst e
      rw [if_neg (by omega), if_pos (show g < g + 1 by omega)]
      have e1 : tAlk T g g = true := by simp [tAlk]
      have e2 : tOth T g g = false := by simp [tOth]
      rw [e1, e2]
      simp
    · have e1 : tAlk T g n = tOth T g n := by
        unfold tAlk tOth
        rw [decide_eq_true (show ¬ n = g from fun q => e q.symm), Bool.and_true]
      rw [e1]
      by_cases q : g < n
      · rw [if_pos q, if_pos (show g < n + 1 by omega)]; omega
      · rw [if_neg q, if_neg (show ¬ g < n + 1 by omega)]; omega
/-- a counter that goes down to -1 -/
def dI (k : Nat) : Int32 := nI k - nI 1
theorem dI_s (k : Nat) : dI (k + 1) = nI k := by unfold dI; rw [pk_sub (by omega)]; rfl
theorem dI_dec (k : Nat) : nI k + (-1) = dI k := by
  unfold dI
  rw [Int32.sub_eq_add_neg]
  rfl
theorem dI_lt {k : Nat} (hk : k < 2 ^ 31) (h : dI k < 0) : k = 0 := by
  cases k with
  | zero => rfl
  | succ k => rw [dI_s] at h; exact absurd h (nI_pos (by omega))
theorem dI_ge {k : Nat} (h : ¬ dI k < 0) : ∃ j, k = j + 1 := by
  cases k with
  | zero => exact absurd (by decide) h
  | succ k => exact ⟨k, rfl⟩
theorem oI_g {to : Option Nat} {g : Nat} (hg : g < 2 ^ 31) (ht : ∀ k, to = some k → k < 2 ^ 31) : nI g = oI to ↔ to = some g := by
  constructor
  · intro h; exact (oI_eq ht hg).mp h.symm
  · intro h; rw [h]; rfl
theorem sub_ge {a b : Nat} (hb : b < 2 ^ 30) (h : 0 ≤ nI a - nI b) : nI a - nI b = nI (a - b) := by
  rcases Nat.lt_or_ge a b with q | q
  · have e := Int32.lt_iff_toInt_lt.mp (pk_sneg hb q)
    have e2 := Int32.le_iff_toInt_le.mp h
    omega
  · exact pk_sub q
theorem sub_lt {a b : Nat} (ha : a < 2 ^ 30) (h : ¬ 0 ≤ nI a - nI b) : a - b = 0 := by
  rcases Nat.lt_or_ge a b with q | q
  · omega
  · rw [pk_sub q] at h
    exact absurd (nI_pos' (by omega)) h
