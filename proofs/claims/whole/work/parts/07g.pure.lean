/-! PURE: prefixes of numbers -/
/-- the figures of a number of g figures -/
def pd (g c : Nat) : Nat → Nat := fun o => c / 10 ^ (g - 1 - o) % 10
theorem pd_dig (n c : Nat) : pd n c = dig n c := rfl
theorem pd_le (g c o : Nat) : pd g c o ≤ 9 := by unfold pd; omega
theorem pd_last {g c v : Nat} (hv : v < 10) : pd (g + 1) (c * 10 + v) g = v := by
  unfold pd
  rw [show g + 1 - 1 - g = 0 by omega]
  simp
  omega
theorem pd_old {g c v o : Nat} (ho : o < g) (hv : v < 10) : pd (g + 1) (c * 10 + v) o = pd g c o := by
  unfold pd
  rw [show g + 1 - 1 - o = (g - 1 - o) + 1 by omega, Nat.pow_succ, Nat.mul_comm (10 ^ (g - 1 - o)) 10, ← Nat.div_div_eq_div_mul, show (c * 10 + v) / 10 = c by omega]
theorem gSum_step {T : Tw} {g c v r : Nat} (hv : v < 10) : gSum T (pd (g + 1) (c * 10 + v)) (g + 1) r = gSum T (pd g c) g r + gft T g v * (1 + (r + g) % 3) := by
  unfold gSum
  simp only [sSum]
  rw [pd_last hv, sSum_cong (fun o ho => by
    show gft T o (pd (g + 1) (c * 10 + v) o) * (1 + (r + o) % 3) = gft T o (pd g c o) * (1 + (r + o) % 3)
    rw [pd_old ho hv])]
theorem gMet_step {T : Tw} {g c v m : Nat} (hv : v < 10) : gMet T (pd (g + 1) (c * 10 + v)) (g + 1) m = gMet T (pd g c) g m + if T.1 (g * 6 + 2) = m then gft T g v else 0 := by
  unfold gMet
  simp only [sSum]
  rw [pd_last hv, sSum_cong (fun o ho => by
    show (if T.1 (o * 6 + 2) = m then gft T o (pd (g + 1) (c * 10 + v) o) else 0) = (if T.1 (o * 6 + 2) = m then gft T o (pd g c o) else 0)
    rw [pd_old ho hv])]
theorem gMid_step {T : Tw} {g c v : Nat} (hv : v < 10) {ts am : Nat → Int32} (h : gMid T (pd g c) g ts am) : gMid T (pd (g + 1) (c * 10 + v)) (g + 1) (fun r => ts r + nI (gft T g v) * nI (1 + (r + g) % 3)) (upd am (T.1 (g * 6 + 2)) (am (T.1 (g * 6 + 2)) + nI (gft T g v))) := by
  refine ⟨fun r hr => ?_, fun m hm => ?_⟩
  · show ts r + nI (gft T g v) * nI (1 + (r + g) % 3) = _
    rw [gSum_step hv, h.1 r hr, pk_mul, nI_add]
  · rw [gMet_step hv]
    simp only [upd]
    by_cases e : m = T.1 (g * 6 + 2)
    · subst e
      rw [if_pos rfl, if_pos rfl, h.2 _ hm]
      rw [show gMet T (pd g c) g (T.1 (g * 6 + 2)) + gft T g v + T.2.1 (T.1 (g * 6 + 2)) = (gMet T (pd g c) g (T.1 (g * 6 + 2)) + T.2.1 (T.1 (g * 6 + 2))) + gft T g v by omega, ← nI_add]
      rw [Int32.sub_eq_add_neg, Int32.sub_eq_add_neg, Int32.add_assoc, Int32.add_comm (-_), ← Int32.add_assoc]
      simp only [nI_add]
    · rw [if_neg e, if_neg (fun q => e q.symm), h.2 m hm]
      rfl
theorem back_ts (ts : Nat → Int32) (x : Int32) (c : Nat → Int32) : (fun r => (fun r => ts r + x * c r) r + -x * c r) = ts := funext (fun r => i32_back _ _ _)
theorem back_am (am : Nat → Int32) (k : Nat) (x : Int32) : upd (upd am k (am k + x)) k (upd am k (am k + x) k + -x) = am := by
  funext j
  simp only [upd]
  by_cases e : j = k
  · subst e
    simp only [if_true]
    exact i32_back1 _ _
  · rw [if_neg e, if_neg e]
theorem gives_like {T U : Tw} (h2 : U.2 = T.2) (h : ∀ k, ¬ k % 6 = 1 → U.1 k = T.1 k) {g v : Nat} : tGives (upN U.1 (g * 6 + 1) v, U.2) g = gft T g v := by
  have hx : ∀ o w, w < 6 → ¬ w = 1 → upN U.1 (g * 6 + 1) v (o * 6 + w) = upN T.1 (g * 6 + 1) v (o * 6 + w) := fun o w hw h1 => by
    rw [upN_ne _ _ (by omega), upN_ne _ _ (by omega)]
    exact h _ (by omega)
  have e1 : tHalv (upN U.1 (g * 6 + 1) v, U.2) g = tHalv (upN T.1 (g * 6 + 1) v, T.2) g := halv_cong (T := (upN T.1 (g * 6 + 1) v, T.2)) (U := (upN U.1 (g * 6 + 1) v, U.2)) (by show U.2.2.2.1 = T.2.2.2.1; rw [h2]) (fun o => ⟨hx o 3 (by omega) (by omega), hx o 4 (by omega) (by omega)⟩) g
  have a0 := hx g 0 (by omega) (by omega)
  have a5 := hx g 5 (by omega) (by omega)
  simp only [gft, tGives, tShare, tOwes, e1, a0, a5, upN_self]
theorem le_step {f : Nat → Nat} {le le2 : Nat → Nat} {i x : Nat} (h : ∀ k, le2 k = if k < i * 10 ∧ f (k / 10) = k % 10 then le k + 1 else le k) (hx : f i = x % 10) (k : Nat) : upN le2 (i * 10 + x % 10) (le2 (i * 10 + x % 10) + 1) k = if k < (i + 1) * 10 ∧ f (k / 10) = k % 10 then le k + 1 else le k := by
  unfold upN
  by_cases e : k = i * 10 + x % 10
  · subst e
    rw [if_pos rfl, h, if_neg (by omega), if_pos]
    refine ⟨by omega, ?_⟩
    rw [show (i * 10 + x % 10) / 10 = i by omega, show (i * 10 + x % 10) % 10 = x % 10 by omega]
    exact hx
  · rw [if_neg e, h]
    by_cases q : k < i * 10
    · simp only [q, true_and, show k < (i + 1) * 10 by omega]
    · rw [if_neg (fun z => q z.1), if_neg]
      intro z
      have h1 : k / 10 = i := by omega
      rw [h1, hx] at z
      omega
theorem isG_ts {G : gb_G} {M : gb_M} {st sf : Nat → Nat} {sn ft : Nat} {ln : Option Nat} {lo hi le gi mo gu : Nat → Nat} {ts am ts1 am1 : Nat → Int32} {gv : Nat} {tl : Bool} (h1 : ts1 = ts) (h2 : am1 = am) (h : isG G M st sf sn ft ln lo hi le gi mo gu ts1 am1 gv tl) : isG G M st sf sn ft ln lo hi le gi mo gu ts am gv tl := by
  subst h1; subst h2; exact h
/-- what guessFrom does with e givers left -/
def gfP (G : gb_G) (e : Nat) : Prop := ∀ (Q : Option Value → gb_M → Prop) (mM : gb_M) (st sf : Nat → Nat) (sn ft : Nat) (ln : Option Nat) (lo hi le gi mo gu : Nat → Nat) (ts am : Nat → Int32) (tl : Bool) (T : Tw) (g c : Nat), isG G mM st sf sn ft ln lo hi le gi mo gu ts am T.2.2.2.1 tl → okT T → g + e = T.2.2.2.1 → c < 10 ^ g → (∀ k, k < sn → st k ≤ 8 ∧ sf k ≤ 9) → sn ≤ 6 → (∀ o, o < g → gu o = pd g c o) → gMid T (pd g c) g ts am → gTab T gi mo → gFold T (fitB T st sf sn) tl (c * 10 ^ e) ft ln lo hi le →
  (∀ M' ft' ln' lo' hi' le' gu', isG G M' st sf sn ft' ln' lo' hi' le' gi mo gu' ts am T.2.2.2.1 tl → (∀ o, o < g → gu' o = gu o) → gFold T (fitB T st sf sn) tl ((c + 1) * 10 ^ e) ft' ln' lo' hi' le' → sm mM M' 19 29 → Q none M') →
  Fn G (3 + e) yX0_guessFrom cX0_guessFrom 5 none [.ref (gb_ad G 19), .int (nI g), .int (nI c)] mM Q
