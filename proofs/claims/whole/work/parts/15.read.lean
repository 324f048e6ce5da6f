/- reading, as the class does it: next token and 'stopped'; tokens' marks mk, nT of them -/
abbrev pE : Type := Nat × Bool
def pS (nT : Nat) (mk : Nat → Nat) (s : pE) (c : Nat) : Bool := !s.2 && (decide (s.1 < nT) && decide (mk s.1 = c))
def pN (nT : Nat) (mk : Nat → Nat) (s : pE) (c : Nat) : pE := if pS nT mk s c = true then (s.1 + 1, s.2) else (s.1, true)
/-- 0 a sum, 3 the terms behind a term (a the sum so far, b the term), 1 a factor, 2 a call behind the name nm, 4 the list behind an element (a so far) -/
def pr (nT : Nat) (mk : Nat → Nat) (tv : Nat → Int32) (sl : Nat → Nat) (nv : Nat → Int32) : Nat → Nat → Nat → Nat → Int32 → Int32 → pE → pE × Int32
  | 0, _, _, _, _, _, s => (s, nI 0)
  | f + 1, 0, dp, _, _, _, s =>
    pr nT mk tv sl nv f 3 dp 0 (nI 0) (pr nT mk tv sl nv f 1 dp 0 0 0 s).2 (pr nT mk tv sl nv f 1 dp 0 0 0 s).1
  | f + 1, 1, dp, _, _, _, s =>
    if pS nT mk s 48 = true then ((s.1 + 1, s.2), tv s.1)
    else if pS nT mk s 34 = true then ((s.1 + 1, s.2), nI (sl s.1) - nI 2)
    else if pS nT mk s 97 = true then
      (if pS nT mk (s.1 + 1, s.2) 40 = true then pr nT mk tv sl nv f 2 dp s.1 0 0 (s.1 + 1, s.2) else ((s.1 + 1, s.2), nv s.1))
    else if pS nT mk s 45 = true then
      (if 12 ≤ dp then ((s.1, true), nI 0) else ((pr nT mk tv sl nv f 1 (dp + 1) 0 0 0 (s.1 + 1, s.2)).1, nI 0 - (pr nT mk tv sl nv f 1 (dp + 1) 0 0 0 (s.1 + 1, s.2)).2))
    else if pS nT mk s 40 = true then
      (if 12 ≤ dp then ((s.1, true), nI 0) else (pN nT mk (pr nT mk tv sl nv f 0 (dp + 1) 0 0 0 (s.1 + 1, s.2)).1 41, (pr nT mk tv sl nv f 0 (dp + 1) 0 0 0 (s.1 + 1, s.2)).2))
    else ((s.1, true), nI 0)
  | f + 1, 2, dp, nm, _, _, s =>
    if pS nT mk s 40 = true ∧ dp < 12 then
      (if pS nT mk (s.1 + 1, s.2) 41 = true then ((s.1 + 2, s.2), nI (sl nm))
       else pr nT mk tv sl nv f 4 dp 0 (nI 31 * nI (sl nm) + (pr nT mk tv sl nv f 0 (dp + 1) 0 0 0 (s.1 + 1, s.2)).2) 0 (pr nT mk tv sl nv f 0 (dp + 1) 0 0 0 (s.1 + 1, s.2)).1)
    else ((s.1, true), nI 0)
  | f + 1, 3, dp, _, a, b, s =>
    if s.2 = true then (s, a + b)
    else if pS nT mk s 42 = true then pr nT mk tv sl nv f 3 dp 0 a (b * (pr nT mk tv sl nv f 1 dp 0 0 0 (s.1 + 1, s.2)).2) (pr nT mk tv sl nv f 1 dp 0 0 0 (s.1 + 1, s.2)).1
    else if pS nT mk s 43 = true then pr nT mk tv sl nv f 3 dp 0 (a + b) (pr nT mk tv sl nv f 1 dp 0 0 0 (s.1 + 1, s.2)).2 (pr nT mk tv sl nv f 1 dp 0 0 0 (s.1 + 1, s.2)).1
    else if pS nT mk s 45 = true then pr nT mk tv sl nv f 3 dp 0 (a + b) (nI 0 - (pr nT mk tv sl nv f 1 dp 0 0 0 (s.1 + 1, s.2)).2) (pr nT mk tv sl nv f 1 dp 0 0 0 (s.1 + 1, s.2)).1
    else (s, a + b)
  | f + 1, _, dp, _, a, _, s =>
    if pS nT mk s 44 = true then pr nT mk tv sl nv f 4 dp 0 (nI 31 * a + (pr nT mk tv sl nv f 0 (dp + 1) 0 0 0 (s.1 + 1, s.2)).2) 0 (pr nT mk tv sl nv f 0 (dp + 1) 0 0 0 (s.1 + 1, s.2)).1
    else (pN nT mk s 41, a)
section
variable {nT : Nat} {mk : Nat → Nat} {tv : Nat → Int32} {sl : Nat → Nat} {nv : Nat → Int32}
theorem pS_iff {s : pE} {c : Nat} : pS nT mk s c = true ↔ s.2 = false ∧ s.1 < nT ∧ mk s.1 = c := by
  unfold pS
  simp [Bool.and_eq_true]
theorem pS_stop {s : pE} {c : Nat} (h : s.2 = true) : pS nT mk s c = false := by
  unfold pS; rw [h]; rfl
/-- what reading keeps: it goes on, within the tokens, and once stopped it stands -/
def pOk (nT : Nat) (s t : pE) : Prop := s.1 ≤ t.1 ∧ (s.1 ≤ nT → t.1 ≤ nT) ∧ (s.2 = true → t = s)
theorem pOk.rf (s : pE) : pOk nT s s := ⟨Nat.le_refl _, fun h => h, fun _ => rfl⟩
theorem pOk.tr {s t u : pE} (h : pOk nT s t) (h' : pOk nT t u) : pOk nT s u :=
  ⟨Nat.le_trans h.1 h'.1, fun x => h'.2.1 (h.2.1 x), fun x => by have := h.2.2 x; subst this; exact h'.2.2 x⟩
theorem pOk.one {s : pE} {c : Nat} (h : pS nT mk s c = true) : pOk nT s (s.1 + 1, s.2) := by
  obtain ⟨h1, h2, -⟩ := pS_iff.mp h
  exact ⟨Nat.le_succ _, fun _ => h2, fun x => by rw [h1] at x; cases x⟩
theorem pOk.stop (s : pE) : pOk nT s (s.1, true) :=
  ⟨Nat.le_refl _, fun h => h, fun x => by rw [← x]⟩
theorem pN_ok (s : pE) (c : Nat) : pOk nT s (pN nT mk s c) := by
  unfold pN
  split
  · rename_i h; exact pOk.one h
  · exact pOk.stop s
theorem pr_ok : ∀ (f tag dp nm : Nat) (a b : Int32) (s : pE), pOk nT s (pr nT mk tv sl nv f tag dp nm a b s).1
  | 0, tag, dp, nm, a, b, s => by rw [pr]; exact pOk.rf s
  | f + 1, 0, dp, nm, a, b, s => by
    rw [pr]; exact (pr_ok f 1 dp 0 0 0 s).tr (pr_ok f 3 dp 0 _ _ _)
  | f + 1, 1, dp, nm, a, b, s => by
    rw [pr]
    split
    · rename_i h; exact pOk.one h
    split
    · rename_i h; exact pOk.one h
    split
    · rename_i h
      split
      · exact (pOk.one h).tr (pr_ok f 2 dp s.1 0 0 _)
      · exact pOk.one h
    split
    · rename_i h
      split
      · exact pOk.stop s
      · exact (pOk.one h).tr (pr_ok f 1 (dp + 1) 0 0 0 _)
    split
    · rename_i h
      split
      · exact pOk.stop s
      · exact ((pOk.one h).tr (pr_ok f 0 (dp + 1) 0 0 0 _)).tr (pN_ok _ _)
    · exact pOk.stop s
  | f + 1, 2, dp, nm, a, b, s => by
    rw [pr]
    split
    · rename_i h
      split
      · rename_i h2; exact (pOk.one h.1).tr (pOk.one h2)
      · exact ((pOk.one h.1).tr (pr_ok f 0 (dp + 1) 0 0 0 _)).tr (pr_ok f 4 dp 0 _ 0 _)
    · exact pOk.stop s
  | f + 1, 3, dp, nm, a, b, s => by
    rw [pr]
    split
    · exact pOk.rf s
    split
    · rename_i h; exact ((pOk.one h).tr (pr_ok f 1 dp 0 0 0 _)).tr (pr_ok f 3 dp 0 _ _ _)
    split
    · rename_i h; exact ((pOk.one h).tr (pr_ok f 1 dp 0 0 0 _)).tr (pr_ok f 3 dp 0 _ _ _)
    split
    · rename_i h; exact ((pOk.one h).tr (pr_ok f 1 dp 0 0 0 _)).tr (pr_ok f 3 dp 0 _ _ _)
    · exact pOk.rf s
  | f + 1, tag + 4, dp, nm, a, b, s => by
    rw [pr]
    · split
      · rename_i h; exact ((pOk.one h).tr (pr_ok f 0 (dp + 1) 0 0 0 _)).tr (pr_ok f 4 dp 0 _ 0 _)
      · exact pN_ok s 41
    all_goals omega
end
