/- the firsts are in order -/
def tInc (p : Nat) (T : pTr) : Prop := (∀ j, j < T.1 → tF T j < p) ∧ ∀ i j, i < j → j < T.1 → tF T i < tF T j
theorem tInc.up {p p' : Nat} {T : pTr} (h : tInc p T) (hp : p ≤ p') : tInc p' T := ⟨fun j hj => Nat.lt_of_lt_of_le (h.1 j hj) hp, h.2⟩
theorem tInc.bg {p dp : Nat} {T : pTr} (h : tInc p T) (hp : p < 2 ^ 31) : tInc (p + 1) (pBg T p dp) := by
  have hF : ∀ j, j < T.1 → tF (pBg T p dp) j = tF T j := fun j hj => by
    have hne : j ≠ T.1 := by omega
    simp [tF, pBg, upd, hne]
  have hN : tF (pBg T p dp) T.1 = p := by
    have : (pBg T p dp).2.1 T.1 = nI p := by simp [pBg, upd]
    unfold tF; rw [this]; exact nI_clamp hp
  refine ⟨fun j hj => ?_, fun i j hij hj => ?_⟩
  · have hj : j < T.1 + 1 := hj
    by_cases hc : j = T.1
    · subst hc; rw [hN]; omega
    · rw [hF j (by omega)]; have := h.1 j (by omega); omega
  · have hj : j < T.1 + 1 := hj
    by_cases hc : j = T.1
    · subst hc; rw [hN, hF i hij]; exact h.1 i hij
    · rw [hF i (by omega), hF j (by omega)]; exact h.2 i j hij (by omega)
section
variable {nT : Nat} {mk : Nat → Nat} {tv : Nat → Int32} {sl : Nat → Nat} {same : Nat → Nat → Bool}
theorem pi_inc (hn : nT ≤ 160) : ∀ (f tag dp i : Nat) (s : pE) (T : pTr), s.1 ≤ nT → tInc s.1 T → (pi nT mk tv sl same f tag dp i s T).1.1.2 = false → tInc (pi nT mk tv sl same f tag dp i s T).1.1.1 (pi nT mk tv sl same f tag dp i s T).1.2
  | 0, tag, dp, i, s, T, hs, hT, h => by rw [pi]; exact hT
  | f + 1, 0, dp, i, s, T, hs, hT, h => by
    have h1 := pi_one h
    by_cases hc : nT ≤ s.1 ∨ 160 ≤ T.1
    · rw [pi, if_pos hc] at h; cases h
    · have hbg : tInc (s.1 + 1) (pBg T s.1 dp) := hT.bg (by omega)
      by_cases hb : pS nT mk s 123 = true
      · by_cases ho : pOb nT mk s 123 dp = true
        · rw [pi, if_neg hc, if_pos hb, if_pos ho] at h ⊢
          have hx : (pi nT mk tv sl same f 1 dp 0 (s.1 + 1, s.2) (pBg T s.1 dp)).1.1.2 = false := by
            cases hq : (pi nT mk tv sl same f 1 dp 0 (s.1 + 1, s.2) (pBg T s.1 dp)).1.1.2 with
            | false => rfl
            | true =>
              have h : (pN nT mk (pi nT mk tv sl same f 1 dp 0 (s.1 + 1, s.2) (pBg T s.1 dp)).1.1 125).2 = false := h
              rw [(pN_ok (nT := nT) (mk := mk) _ 125).2.2 hq, hq] at h
              cases h
          have ih := pi_inc hn f 1 dp 0 (s.1 + 1, s.2) (pBg T s.1 dp) (by show s.1 + 1 ≤ nT; omega) hbg hx
          have ih2 : tInc (pN nT mk (pi nT mk tv sl same f 1 dp 0 (s.1 + 1, s.2) (pBg T s.1 dp)).1.1 125).1 (pi nT mk tv sl same f 1 dp 0 (s.1 + 1, s.2) (pBg T s.1 dp)).1.2 := ih.up (pN_ok _ _).1
          exact ih2
        · rw [pi, if_neg hc, if_pos hb, if_neg ho] at h1 ⊢
          exact hbg.up h1
      · rw [pi, if_neg hc, if_neg hb] at h1 ⊢
        exact hbg.up h1
  | f + 1, tag + 1, dp, i, s, T, hs, hT, h => by
    have e : pi nT mk tv sl same (f + 1) (tag + 1) dp i s T = if 160 ≤ i ∨ s.2 = true ∨ pS nT mk s 125 = true then ((s, T), i) else pi nT mk tv sl same f 1 dp (i + 1) (pi nT mk tv sl same f 0 (dp + 1) 0 s T).1.1 (pi nT mk tv sl same f 0 (dp + 1) 0 s T).1.2 := by rw [pi]; omega
    rw [e] at h ⊢
    by_cases hc : 160 ≤ i ∨ s.2 = true ∨ pS nT mk s 125 = true
    · rw [if_pos hc]; exact hT
    · rw [if_neg hc] at h ⊢
      have hok := (pi_ok (nT := nT) (mk := mk) (tv := tv) (sl := sl) (same := same) f 0 (dp + 1) 0 s T).1
      have hok2 := (pi_ok (nT := nT) (mk := mk) (tv := tv) (sl := sl) (same := same) f 1 dp (i + 1) (pi nT mk tv sl same f 0 (dp + 1) 0 s T).1.1 (pi nT mk tv sl same f 0 (dp + 1) 0 s T).1.2).1
      have h0 : (pi nT mk tv sl same f 0 (dp + 1) 0 s T).1.1.2 = false := by
        cases hq : (pi nT mk tv sl same f 0 (dp + 1) 0 s T).1.1.2 with
        | false => rfl
        | true => rw [hok2.2.2 hq, hq] at h; cases h
      exact pi_inc hn f 1 dp (i + 1) _ _ (hok.2.1 hs) (pi_inc hn f 0 (dp + 1) 0 s T hs hT h0) h
theorem pA_inc (hn : nT ≤ 160) : ∀ (f i : Nat) (s : pE) (T : pTr), s.1 ≤ nT → tInc s.1 T → ∀ a c, a < c → c < (pA nT mk tv sl same f i s T).2.1 → tF (pA nT mk tv sl same f i s T).2 a < tF (pA nT mk tv sl same f i s T).2 c
  | 0, i, s, T, hs, hT => by rw [pA]; exact hT.2
  | f + 1, i, s, T, hs, hT => by
    rw [pA]
    by_cases hc : 160 ≤ i ∨ nT ≤ s.1 ∨ s.2 = true
    · rw [if_pos hc]; exact hT.2
    · rw [if_neg hc]
      have hI := pi_inc (mk := mk) (tv := tv) (sl := sl) (same := same) hn 330 0 0 0 s T hs hT
      have hok := (pi_ok (nT := nT) (mk := mk) (tv := tv) (sl := sl) (same := same) 330 0 0 0 s T).1
      have hfr := pi_fr (nT := nT) (mk := mk) (tv := tv) (sl := sl) (same := same) 330 0 0 0 s T
      generalize (pi nT mk tv sl same 330 0 0 0 s T).1 = r at hI hok hfr ⊢
      obtain ⟨⟨k', u⟩, T'⟩ := r
      have hfr : tFr T.1 T T' := hfr
      cases u with
      | true =>
        rw [if_pos rfl]
        have hst : pA nT mk tv sl same f (i + 1) (k', true) (T.1, T'.2) = ((k', true), (T.1, T'.2)) := by
          cases f with
          | zero => rw [pA]
          | succ f => rw [pA, if_pos (Or.inr (Or.inr rfl))]
        show ∀ a c, a < c → c < (pA nT mk tv sl same f (i + 1) (k', true) (T.1, T'.2)).2.1 → tF (pA nT mk tv sl same f (i + 1) (k', true) (T.1, T'.2)).2 a < tF (pA nT mk tv sl same f (i + 1) (k', true) (T.1, T'.2)).2 c
        rw [hst]
        intro a c hac hcc
        have hcc : c < T.1 := hcc
        have e1 : tF (T.1, T'.2) a = tF T a := by unfold tF; rw [(hfr a (by omega)).1]
        have e2 : tF (T.1, T'.2) c = tF T c := by unfold tF; rw [(hfr c hcc).1]
        show tF (T.1, T'.2) a < tF (T.1, T'.2) c
        rw [e1, e2]
        exact hT.2 a c hac hcc
      | false =>
        rw [if_neg (show ¬ false = true by decide)]
        exact pA_inc hn f (i + 1) (k', false) T' (hok.2.1 hs) (hI rfl)
end
section
variable {e e' p g w : Nat} {ts ts' : List (Nat × Nat × Nat)}
/-- two new items have two old ones -/
theorem oi_inj (h : tsOk e ts) (h' : tsOk e' ts') {fi0 la0 fi la : Nat → Nat} {c0 i j : Nat} (hO : ∀ j, j < c0 → fi0 j ≤ la0 j ∧ la0 j < ts.length) (hc0 : c0 ≤ 160) (hi : fi i < ts'.length) (hj : fi j < ts'.length) (hne : fi i ≠ fi j) (h1 : oItem (eO p g w ts ts') fi0 la0 c0 (fi i) (la i) ≠ -1) : oItem (eO p g w ts ts') fi0 la0 c0 (fi i) (la i) ≠ oItem (eO p g w ts ts') fi0 la0 c0 (fi j) (la j) := by
  intro hh
  rcases oItem_in2 (O := eO p g w ts ts') (fi0 := fi0) (la0 := la0) (c0 := c0) (a := fi i) (z := la i) with h2 | ⟨q, q1, q2, q3⟩
  · exact h1 h2
  · rcases oItem_in2 (O := eO p g w ts ts') (fi0 := fi0) (la0 := la0) (c0 := c0) (a := fi j) (z := la j) with h2 | ⟨r, r1, r2, r3⟩
    · exact h1 (hh.trans h2)
    · rw [q2, r2, nI_eq (by omega) (by omega)] at hh
      subst hh
      have e1 := ((eO_iff h).mp q3).2
      have e2 := ((eO_iff h).mp r3).2
      rw [e1] at e2
      exact hne (tV_uniq h' hi hj (Option.some.inj e2))
end
theorem tsSg_all {t : Nat → Nat} {e : Nat} : tsSg t (lAll t e) := fun k hk2 h3 => lKind_sig ((lTok_sig t e 161 _ k _ (tk_at hk2)).symm.trans h3)
