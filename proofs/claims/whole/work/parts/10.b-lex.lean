/- the tokens of a text, as a mathematical value -/
def lLet (c : Nat) : Bool := decide (97 ≤ c ∧ c ≤ 122)
def lDig (c : Nat) : Bool := decide (48 ≤ c ∧ c ≤ 57)
def lSig (c : Nat) : Bool := decide (c = 61 ∨ c = 59 ∨ c = 43 ∨ c = 45 ∨ c = 42 ∨ c = 40 ∨ c = 41 ∨ c = 123 ∨ c = 125 ∨ c = 44)
/-- over blanks and remarks: f characters are left from p on -/
def lBl (t : Nat → Nat) : Nat → Nat → Bool → Nat
  | 0, p, _ => p
  | f + 1, p, cm => if t p = 10 then lBl t f (p + 1) false else if t p = 35 then lBl t f (p + 1) true else if t p ≠ 32 ∧ cm = false then p else lBl t f (p + 1) cm
def lRun (q : Nat → Bool) (t : Nat → Nat) : Nat → Nat → Nat
  | 0, p => p
  | f + 1, p => if q (t p) = true then lRun q t f (p + 1) else p
def lQuo (t : Nat → Nat) : Nat → Nat → Nat
  | 0, p => p
  | f + 1, p => if t p = 34 then p else lQuo t f (p + 1)
def lEnd (t : Nat → Nat) (n p : Nat) : Nat := if t p = 34 then (if lQuo t (n - (p + 1)) (p + 1) < n then lQuo t (n - (p + 1)) (p + 1) + 1 else n) else if lLet (t p) = true then lRun lLet t (n - p) p else if lDig (t p) = true then lRun lDig t (n - p) p else p + 1
def lKind (t : Nat → Nat) (n p : Nat) : Nat := if t p = 34 then (if lQuo t (n - (p + 1)) (p + 1) < n then 2 else 4) else if lLet (t p) = true then 0 else if lDig (t p) = true then 1 else if lSig (t p) = true then 3 else 4
/-- place, length, kind of each token from p on -/
def lTok (t : Nat → Nat) (n : Nat) : Nat → Nat → List (Nat × Nat × Nat)
  | 0, _ => []
  | f + 1, p => if p < n then (p, lEnd t n p - p, lKind t n p) :: lTok t n f (lBl t (n - lEnd t n p) (lEnd t n p) false) else []
theorem lBl_in (t : Nat → Nat) : ∀ (f p : Nat) (cm : Bool), p ≤ lBl t f p cm ∧ lBl t f p cm ≤ p + f
  | 0, p, cm => ⟨Nat.le_refl p, Nat.le_refl p⟩
  | f + 1, p, cm => by
    have h1 := lBl_in t f (p + 1) false
    have h2 := lBl_in t f (p + 1) true
    have h3 := lBl_in t f (p + 1) cm
    unfold lBl
    split
    · omega
    · split
      · omega
      · split <;> omega
theorem lRun_in (q : Nat → Bool) (t : Nat → Nat) : ∀ (f p : Nat), p ≤ lRun q t f p ∧ lRun q t f p ≤ p + f
  | 0, p => ⟨Nat.le_refl p, Nat.le_refl p⟩
  | f + 1, p => by
    have h1 := lRun_in q t f (p + 1)
    unfold lRun
    split <;> omega
theorem lQuo_in (t : Nat → Nat) : ∀ (f p : Nat), p ≤ lQuo t f p ∧ lQuo t f p ≤ p + f
  | 0, p => ⟨Nat.le_refl p, Nat.le_refl p⟩
  | f + 1, p => by
    have h1 := lQuo_in t f (p + 1)
    unfold lQuo
    split <;> omega
theorem lEnd_in (t : Nat → Nat) {n p : Nat} (h : p < n) : p < lEnd t n p ∧ lEnd t n p ≤ n := by
  have h1 := lQuo_in t (n - (p + 1)) (p + 1)
  obtain ⟨f, hf⟩ : ∃ f, n - p = f + 1 := ⟨n - p - 1, by omega⟩
  have h2 := lRun_in lLet t f (p + 1)
  have h3 := lRun_in lDig t f (p + 1)
  unfold lEnd
  rw [hf]
  split
  · split <;> omega
  · split
    · rename_i h4; rw [lRun, if_pos h4]; omega
    · split
      · rename_i h4; rw [lRun, if_pos h4]; omega
      · omega
theorem lKind_lt (t : Nat → Nat) (n p : Nat) : lKind t n p < 5 := by
  unfold lKind
  repeat' split
  all_goals omega
/-- the tokens lie in the text, one behind another -/
theorem lTok_in (t : Nat → Nat) (n : Nat) : ∀ (f p : Nat) (k : Nat) (q : Nat × Nat × Nat), (lTok t n f p)[k]? = some q → p + k ≤ q.1 ∧ 0 < q.2.1 ∧ q.1 + q.2.1 ≤ n ∧ q.2.2 < 5
  | 0, p, k, q, h => by simp [lTok] at h
  | f + 1, p, k, q, h => by
    unfold lTok at h
    split at h
    · rename_i hp
      have he := lEnd_in t hp
      cases k with
      | zero =>
        simp at h
        subst h
        exact ⟨Nat.le_refl _, by show 0 < lEnd t n p - p; omega, by show p + (lEnd t n p - p) ≤ n; omega, lKind_lt t n p⟩
      | succ k =>
        rw [List.getElem?_cons_succ] at h
        have h1 := lTok_in t n f _ k q h
        have h2 := lBl_in t (n - lEnd t n p) (lEnd t n p) false
        omega
    · simp at h
theorem lTok_len (t : Nat → Nat) (n : Nat) (f p : Nat) : (lTok t n f p).length ≤ n := by
  cases hl : (lTok t n f p).length with
  | zero => omega
  | succ k =>
    have hk : k < (lTok t n f p).length := by omega
    have := lTok_in t n f p k _ (List.getElem?_eq_getElem hk)
    omega
