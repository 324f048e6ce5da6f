/- the automaton and the descent agree: expressions -/
section
variable (nT : Nat) (mk : Nat → Nat)
/-- the automaton from token k on: where it ends, whether all was good, what it leaves -/
def gR (k : Nat) (q : Nat × List Nat) (B : aB) : Nat × Bool × aB :=
  ((aRun mk (nT - k) k q B).1, decide ((aRun mk (nT - k) k q B).1 = nT ∧ (aRun mk (nT - k) k q B).2.1.1 = 0 ∧ (aRun mk (nT - k) k q B).2.1.2.length = 0), (aRun mk (nT - k) k q B).2.2)
def gP (B : aB) (r : pE) (q : Nat × List Nat) : Nat × Bool × aB := if r.2 = true then (r.1, false, B) else gR nT mk r.1 q B
def nOp (r : pE) : Prop := r.2 = false → r.1 < nT → mk r.1 ≠ 42 ∧ mk r.1 ≠ 43 ∧ mk r.1 ≠ 45
end
section
variable {nT : Nat} {mk : Nat → Nat} {tv : Nat → Int32} {sl : Nat → Nat} {nv : Nat → Int32} {k : Nat} {q : Nat × List Nat} {B : aB}
theorem gR_s {x : (Nat × List Nat) × aB} (hk : k < nT) (h : aTok (mk k) k q B = some x) : gR nT mk k q B = gR nT mk (k + 1) x.1 x.2 := by
  unfold gR
  obtain ⟨f, hf⟩ : ∃ f, nT - k = f + 1 := ⟨nT - k - 1, by omega⟩
  have hf2 : nT - (k + 1) = f := by omega
  have : aRun mk (f + 1) k q B = aRun mk f (k + 1) x.1 x.2 := by rw [aRun, h]
  rw [hf, hf2, this]
theorem gR_n (hk : k < nT) (h : aTok (mk k) k q B = none) : gR nT mk k q B = (k, false, B) := by
  unfold gR
  obtain ⟨f, hf⟩ : ∃ f, nT - k = f + 1 := ⟨nT - k - 1, by omega⟩
  have : aRun mk (f + 1) k q B = (k, q, B) := by rw [aRun, h]
  rw [hf, this]
  have hne : ¬ (k = nT ∧ q.1 = 0 ∧ q.2.length = 0) := by omega
  show (k, decide (k = nT ∧ q.1 = 0 ∧ q.2.length = 0), B) = _
  rw [decide_eq_false hne]
theorem gR_e (hk : k = nT) (h : q.1 ≠ 0 ∨ q.2 ≠ []) : gR nT mk k q B = (k, false, B) := by
  unfold gR
  have : aRun mk (nT - k) k q B = (k, q, B) := by rw [show nT - k = 0 by omega, aRun]
  rw [this]
  have hne : ¬ (k = nT ∧ q.1 = 0 ∧ q.2.length = 0) := by
    rintro ⟨-, h1, h2⟩
    rcases h with h | h
    · exact h h1
    · exact h (List.eq_nil_of_length_eq_zero h2)
  show (k, decide (k = nT ∧ q.1 = 0 ∧ q.2.length = 0), B) = _
  rw [decide_eq_false hne]
theorem gR_E (hk : k = nT) : gR nT mk k q B = (k, decide (q.1 = 0 ∧ q.2.length = 0), B) := by
  unfold gR
  have : aRun mk (nT - k) k q B = (k, q, B) := by rw [show nT - k = 0 by omega, aRun]
  rw [this]
  simp [hk]
variable {c : Nat} {o : List Nat}
theorem aTok_0 : aTok c k (0, o) B = aItem c k (0, o) B := by simp [aTok, aT2]
theorem aTok_1 : aTok c k (1, o) B = aNam c (1, o) B := by simp [aTok, aT2]
theorem aTok_2 : aTok c k (2, o) B = (aFac c o).map (fun x => (x, B)) := by simp [aTok, aT2]
theorem aTok_3 : aTok c k (3, o) B = if c = 41 then some (aClo o, B) else (aFac c o).map (fun x => (x, B)) := by simp [aTok, aT2]
theorem aTok_5 : aTok c k (5, o) B = aBeh c k (5, o) B := by simp [aTok, aT2]
theorem aTok_6 : aTok c k (6, o) B = if c = 59 then some ((0, o), aFin B o.length B.1.2.2.2 k) else none := by simp [aTok, aT2]
theorem aTok_4n (h : c ≠ 40) : aTok c k (4, o) B = aTok c k (5, aWh o) B := by simp [aTok, h]
theorem gR_4 (hk : k ≤ nT) (h : k < nT → mk k ≠ 40) : gR nT mk k (4, o) B = gR nT mk k (5, aWh o) B := by
  by_cases hk2 : k < nT
  · have h1 := aTok_4n (k := k) (o := o) (B := B) (h hk2)
    cases hx : aTok (mk k) k (5, aWh o) B with
    | none => rw [gR_n hk2 hx, gR_n hk2 (h1.trans hx)]
    | some x => rw [gR_s hk2 hx, gR_s hk2 (h1.trans hx)]
  · rw [gR_e (by omega) (Or.inl (by simp)), gR_e (by omega) (Or.inl (by simp))]
theorem pS_lt (hk : k < nT) : (pS nT mk (k, false) c = true) = (mk k = c) := by
  simp [pS, hk]
theorem pS_ge (hk : k = nT) : pS nT mk (k, false) c = false := by
  simp [pS, hk]
theorem gP_t {r : pE} (h : r.2 = true) : gP nT mk B r q = (r.1, false, B) := if_pos h
theorem gP_f {r : pE} (h : r.2 = false) : gP nT mk B r q = gR nT mk r.1 q B := if_neg (by rw [h]; decide)
/-- a factor that is read to its end has a token -/
theorem pr1_one {f dp nm : Nat} {a b : Int32} {s : pE} (h : (pr nT mk tv sl nv (f + 1) 1 dp nm a b s).1.2 = false) : s.1 + 1 ≤ (pr nT mk tv sl nv (f + 1) 1 dp nm a b s).1.1 := by
  rw [pr] at h ⊢
  split
  · exact Nat.le_refl _
  rename_i h1; rw [if_neg h1] at h
  split
  · exact Nat.le_refl _
  rename_i h2; rw [if_neg h2] at h
  split
  · split
    · exact (pr_ok f 2 dp s.1 0 0 (s.1 + 1, s.2)).1
    · exact Nat.le_refl _
  rename_i h3; rw [if_neg h3] at h
  split
  · rename_i h4; rw [if_pos h4] at h
    split
    · rename_i h5; rw [if_pos h5] at h; cases h
    · exact (pr_ok f 1 (dp + 1) 0 0 0 (s.1 + 1, s.2)).1
  rename_i h4; rw [if_neg h4] at h
  split
  · rename_i h5; rw [if_pos h5] at h
    split
    · rename_i h6; rw [if_pos h6] at h; cases h
    · exact ((pr_ok f 0 (dp + 1) 0 0 0 (s.1 + 1, s.2)).tr (pN_ok _ _)).1
  · rename_i h5; rw [if_neg h5] at h; cases h
theorem pr0_one {f dp nm : Nat} {a b : Int32} {s : pE} (h : (pr nT mk tv sl nv (f + 2) 0 dp nm a b s).1.2 = false) : s.1 + 1 ≤ (pr nT mk tv sl nv (f + 2) 0 dp nm a b s).1.1 := by
  rw [pr] at h ⊢
  have h2 := pr_ok (nT := nT) (mk := mk) (tv := tv) (sl := sl) (nv := nv) (f + 1) 3 dp 0 (nI 0) (pr nT mk tv sl nv (f + 1) 1 dp 0 0 0 s).2 (pr nT mk tv sl nv (f + 1) 1 dp 0 0 0 s).1
  cases hq : (pr nT mk tv sl nv (f + 1) 1 dp 0 0 0 s).1.2 with
  | true => rw [h2.2.2 hq, hq] at h; cases h
  | false => exact Nat.le_trans (pr1_one hq) h2.1
theorem pr_3 {f dp nm : Nat} {a b : Int32} {s : pE} : pr nT mk tv sl nv (f + 1) 3 dp nm a b s = if s.2 = true then (s, a + b)
    else if pS nT mk s 42 = true then pr nT mk tv sl nv f 3 dp 0 a (b * (pr nT mk tv sl nv f 1 dp 0 0 0 (s.1 + 1, s.2)).2) (pr nT mk tv sl nv f 1 dp 0 0 0 (s.1 + 1, s.2)).1
    else if pS nT mk s 43 = true then pr nT mk tv sl nv f 3 dp 0 (a + b) (pr nT mk tv sl nv f 1 dp 0 0 0 (s.1 + 1, s.2)).2 (pr nT mk tv sl nv f 1 dp 0 0 0 (s.1 + 1, s.2)).1
    else if pS nT mk s 45 = true then pr nT mk tv sl nv f 3 dp 0 (a + b) (nI 0 - (pr nT mk tv sl nv f 1 dp 0 0 0 (s.1 + 1, s.2)).2) (pr nT mk tv sl nv f 1 dp 0 0 0 (s.1 + 1, s.2)).1
    else (s, a + b) := by rw [pr]
theorem pr_4 {f dp nm : Nat} {a b : Int32} {s : pE} : pr nT mk tv sl nv (f + 1) 4 dp nm a b s = if pS nT mk s 44 = true then pr nT mk tv sl nv f 4 dp 0 (nI 31 * a + (pr nT mk tv sl nv f 0 (dp + 1) 0 0 0 (s.1 + 1, s.2)).2) 0 (pr nT mk tv sl nv f 0 (dp + 1) 0 0 0 (s.1 + 1, s.2)).1
    else (pN nT mk s 41, a) := by
  rw [pr]
  all_goals omega
end
section
variable (nT : Nat) (mk : Nat → Nat) (tv : Nat → Int32) (sl : Nat → Nat) (nv : Nat → Int32)
def gFac (f : Nat) : Prop := ∀ (dp : Nat) (o : List Nat) (B : aB) (k : Nat), o.length = dp → dp ≤ 12 → k ≤ nT → 5 * (nT - k) + 1 ≤ f → gR nT mk k (2, o) B = gP nT mk B (pr nT mk tv sl nv f 1 dp 0 0 0 (k, false)).1 (5, aWh o)
def gSum (f : Nat) : Prop := ∀ (dp : Nat) (o : List Nat) (B : aB) (k : Nat), aWh o = o → o.length = dp → dp ≤ 12 → k ≤ nT → 5 * (nT - k) + 2 ≤ f → gR nT mk k (2, o) B = gP nT mk B (pr nT mk tv sl nv f 0 dp 0 0 0 (k, false)).1 (5, o) ∧ nOp nT mk (pr nT mk tv sl nv f 0 dp 0 0 0 (k, false)).1
def gTrm (f : Nat) : Prop := ∀ (dp : Nat) (o : List Nat) (B : aB) (s : pE) (a b : Int32), aWh o = o → o.length = dp → dp ≤ 12 → s.1 ≤ nT → 1 ≤ f → (s.2 = false → 5 * (nT - s.1) + 1 ≤ f) → gP nT mk B s (5, o) = gP nT mk B (pr nT mk tv sl nv f 3 dp 0 a b s).1 (5, o) ∧ nOp nT mk (pr nT mk tv sl nv f 3 dp 0 a b s).1
def gCal (f : Nat) : Prop := ∀ (x dp nm : Nat) (o : List Nat) (B : aB) (k : Nat), (x = 3 ∨ x = 5) → o.length = dp → dp < 12 → k < nT → mk k = 40 → 5 * (nT - k) + 1 ≤ f → gR nT mk (k + 1) (3, x :: o) B = gP nT mk B (pr nT mk tv sl nv f 2 dp nm 0 0 (k, false)).1 (aClo (x :: o))
def gLst (f : Nat) : Prop := ∀ (x dp : Nat) (o : List Nat) (B : aB) (s : pE) (a : Int32), (x = 3 ∨ x = 5) → o.length = dp → dp < 12 → s.1 ≤ nT → nOp nT mk s → 1 ≤ f → (s.2 = false → 5 * (nT - s.1) + 1 ≤ f) → gP nT mk B s (5, x :: o) = gP nT mk B (pr nT mk tv sl nv f 4 dp 0 a 0 s).1 (aClo (x :: o))
end
section
variable {nT : Nat} {mk : Nat → Nat} {tv : Nat → Int32} {sl : Nat → Nat} {nv : Nat → Int32} {f : Nat}
theorem g_fac (ihS : gSum nT mk tv sl nv f) (ihF : gFac nT mk tv sl nv f) (ihC : gCal nT mk tv sl nv f) : gFac nT mk tv sl nv (f + 1) := by
  intro dp o B k ho hdp hk hf
  rw [pr]
  by_cases hk2 : k < nT
  · simp only [pS_lt hk2]
    by_cases h48 : mk k = 48
    · rw [if_pos h48, gP_f rfl]
      exact gR_s (x := ((5, aWh o), B)) hk2 (by rw [aTok_2]; simp [aFac, h48])
    rw [if_neg h48]
    by_cases h34 : mk k = 34
    · rw [if_pos h34, gP_f rfl]
      exact gR_s (x := ((5, aWh o), B)) hk2 (by rw [aTok_2]; simp [aFac, h34])
    rw [if_neg h34]
    by_cases h97 : mk k = 97
    · rw [if_pos h97, gR_s (x := ((4, o), B)) hk2 (by rw [aTok_2]; simp [aFac, h97])]
      show gR nT mk (k + 1) (4, o) B = _
      by_cases h40 : pS nT mk (k + 1, false) 40 = true
      · rw [if_pos h40]
        obtain ⟨-, h2, h3⟩ := pS_iff.mp h40
        have h2 : k + 1 < nT := h2
        have h3 : mk (k + 1) = 40 := h3
        by_cases h12 : dp < 12
        · rw [gR_s (x := ((3, 3 :: o), B)) h2 (by unfold aTok; rw [if_pos ⟨rfl, h3⟩, if_neg (by show ¬ o.length = 12; omega)])]
          have := ihC 3 dp k o B (k + 1) (Or.inl rfl) ho h12 h2 h3 (by omega)
          exact this
        · rw [gR_n h2 (by unfold aTok; rw [if_pos ⟨rfl, h3⟩, if_pos (by show o.length = 12; omega)])]
          obtain ⟨g, rfl⟩ : ∃ g, f = g + 1 := ⟨f - 1, by omega⟩
          rw [pr, if_neg (by omega), gP_t rfl]
      · rw [if_neg h40, gP_f rfl]
        exact gR_4 (by omega) (fun h hc => h40 (pS_iff.mpr ⟨rfl, h, hc⟩))
    rw [if_neg h97]
    by_cases h45 : mk k = 45
    · rw [if_pos h45]
      by_cases h12 : 12 ≤ dp
      · rw [if_pos h12, gP_t rfl]
        exact gR_n hk2 (by rw [aTok_2]; simp [aFac, h45, show o.length = 12 by omega])
      · rw [if_neg h12, gR_s (x := ((2, 4 :: o), B)) hk2 (by rw [aTok_2]; simp [aFac, h45, show ¬ o.length = 12 by omega])]
        exact ihF (dp + 1) (4 :: o) B (k + 1) (by simp [ho]) (by omega) (by omega) (by omega)
    rw [if_neg h45]
    by_cases h40 : mk k = 40
    · rw [if_pos h40]
      by_cases h12 : 12 ≤ dp
      · rw [if_pos h12, gP_t rfl]
        exact gR_n hk2 (by rw [aTok_2]; simp [aFac, h40, show o.length = 12 by omega])
      · rw [if_neg h12, gR_s (x := ((2, 2 :: o), B)) hk2 (by rw [aTok_2]; simp [aFac, h40, show ¬ o.length = 12 by omega])]
        obtain ⟨h1, h2⟩ := ihS (dp + 1) (2 :: o) B (k + 1) (by simp [aWh]) (by simp [ho]) (by omega) (by omega) (by omega)
        have hok := (pr_ok (nT := nT) (mk := mk) (tv := tv) (sl := sl) (nv := nv) f 0 (dp + 1) 0 0 0 (k + 1, false)).2.1 (show k + 1 ≤ nT by omega)
        refine h1.trans ?_
        show _ = gP nT mk B (pN nT mk (pr nT mk tv sl nv f 0 (dp + 1) 0 0 0 (k + 1, false)).1 41) _
        generalize (pr nT mk tv sl nv f 0 (dp + 1) 0 0 0 (k + 1, false)).1 = r at h2 hok ⊢
        obtain ⟨j, u⟩ := r
        cases u with
        | true => rw [(pN_ok (nT := nT) (mk := mk) (j, true) 41).2.2 rfl, gP_t rfl, gP_t rfl]
        | false =>
          rw [gP_f rfl]
          have hok : j ≤ nT := hok
          have h2 := h2 rfl
          show gR nT mk j (5, 2 :: o) B = _
          unfold pN
          by_cases h41 : pS nT mk (j, false) 41 = true
          · obtain ⟨-, g2, g3⟩ := pS_iff.mp h41
            have g3 : mk j = 41 := g3
            rw [if_pos h41, gP_f rfl, gR_s (x := (aClo (2 :: o), B)) g2 (by rw [aTok_5]; simp [aBeh, g3, aIn, aTop])]
            rfl
          · rw [if_neg h41, gP_t rfl]
            by_cases hj : j < nT
            · have h3 := h2 hj
              have h3 : mk j ≠ 42 ∧ mk j ≠ 43 ∧ mk j ≠ 45 := h3
              have h41' : mk j ≠ 41 := fun hc => h41 (pS_iff.mpr ⟨rfl, hj, hc⟩)
              exact gR_n hj (by rw [aTok_5]; simp [aBeh, h3, h41', aIn, aTop])
            · exact gR_e (by omega) (Or.inl (by simp))
    · rw [if_neg h40, gP_t rfl]
      exact gR_n hk2 (by rw [aTok_2]; simp [aFac, h48, h34, h97, h45, h40])
  · have hk3 : k = nT := by omega
    simp only [pS_ge hk3]
    rw [gR_e hk3 (Or.inl (by simp))]
    rfl
theorem g_trm (ihF : gFac nT mk tv sl nv f) (ihT : gTrm nT mk tv sl nv f) : gTrm nT mk tv sl nv (f + 1) := by
  intro dp o B s a b hw ho hdp hs hf hn
  rw [pr_3]
  obtain ⟨k, u⟩ := s
  cases u with
  | true => rw [if_pos rfl]; exact ⟨rfl, fun h => by cases h⟩
  | false =>
    rw [if_neg (show ¬ false = true by decide), gP_f rfl]
    have hn : 5 * (nT - k) + 1 ≤ f + 1 := hn rfl
    have hs : k ≤ nT := hs
    show gR nT mk k (5, o) B = _ ∧ _
    by_cases hk : k < nT
    · simp only [pS_lt hk]
      have key : ∀ (a' b' : Int32), mk k = 42 ∨ mk k = 43 ∨ mk k = 45 → gR nT mk k (5, o) B = gP nT mk B (pr nT mk tv sl nv f 3 dp 0 a' b' (pr nT mk tv sl nv f 1 dp 0 0 0 (k + 1, false)).1).1 (5, o) ∧ nOp nT mk (pr nT mk tv sl nv f 3 dp 0 a' b' (pr nT mk tv sl nv f 1 dp 0 0 0 (k + 1, false)).1).1 := by
        intro a' b' hc
        rw [gR_s (x := ((2, o), B)) hk (by rw [aTok_5]; unfold aBeh; rw [if_pos (by omega)])]
        have h1 := ihF dp o B (k + 1) ho hdp (by omega) (by omega)
        rw [hw] at h1
        have h3 := (pr_ok (nT := nT) (mk := mk) (tv := tv) (sl := sl) (nv := nv) f 1 dp 0 0 0 (k + 1, false)).2.1 (show k + 1 ≤ nT by omega)
        have h4 := ihT dp o B (pr nT mk tv sl nv f 1 dp 0 0 0 (k + 1, false)).1 a' b' hw ho hdp h3 (by omega) (fun hq => by
          obtain ⟨g, rfl⟩ : ∃ g, f = g + 1 := ⟨f - 1, by omega⟩
          have := pr1_one hq
          have : k + 1 + 1 ≤ _ := this
          omega)
        exact ⟨h1.trans h4.1, h4.2⟩
      by_cases h42 : mk k = 42
      · rw [if_pos h42]; exact key _ _ (Or.inl h42)
      rw [if_neg h42]
      by_cases h43 : mk k = 43
      · rw [if_pos h43]; exact key _ _ (Or.inr (Or.inl h43))
      rw [if_neg h43]
      by_cases h45 : mk k = 45
      · rw [if_pos h45]; exact key _ _ (Or.inr (Or.inr h45))
      rw [if_neg h45]
      exact ⟨rfl, fun _ _ => ⟨h42, h43, h45⟩⟩
    · have hk3 : k = nT := by omega
      simp only [pS_ge hk3]
      exact ⟨rfl, fun _ h => absurd h hk⟩
theorem g_sum (ihF : gFac nT mk tv sl nv f) (ihT : gTrm nT mk tv sl nv f) : gSum nT mk tv sl nv (f + 1) := by
  intro dp o B k hw ho hdp hk hf
  rw [pr]
  have h1 := ihF dp o B k ho hdp hk (by omega)
  rw [hw] at h1
  have h3 := (pr_ok (nT := nT) (mk := mk) (tv := tv) (sl := sl) (nv := nv) f 1 dp 0 0 0 (k, false)).2.1 hk
  have h4 := ihT dp o B (pr nT mk tv sl nv f 1 dp 0 0 0 (k, false)).1 (nI 0) (pr nT mk tv sl nv f 1 dp 0 0 0 (k, false)).2 hw ho hdp h3 (by omega) (fun hq => by
    obtain ⟨g, rfl⟩ : ∃ g, f = g + 1 := ⟨f - 1, by omega⟩
    have := pr1_one hq
    have : k + 1 ≤ _ := this
    omega)
  exact ⟨h1.trans h4.1, h4.2⟩
theorem g_lst (ihS : gSum nT mk tv sl nv f) (ihL : gLst nT mk tv sl nv f) : gLst nT mk tv sl nv (f + 1) := by
  intro x dp o B s a hx ho hdp hs hop hf hn
  rw [pr_4]
  have haw : aWh (x :: o) = x :: o := by rcases hx with rfl | rfl <;> rfl
  have hin : aIn (x :: o) = true := by rcases hx with rfl | rfl <;> rfl
  have htp : aTop (x :: o) ≠ 2 := by rcases hx with rfl | rfl <;> simp [aTop]
  obtain ⟨k, u⟩ := s
  cases u with
  | true =>
    rw [if_neg (by rw [pS_stop rfl]; decide), (pN_ok (nT := nT) (mk := mk) (k, true) 41).2.2 rfl, gP_t rfl, gP_t rfl]
  | false =>
    have hn : 5 * (nT - k) + 1 ≤ f + 1 := hn rfl
    have hs : k ≤ nT := hs
    have hop := hop rfl
    rw [gP_f rfl]
    show gR nT mk k (5, x :: o) B = _
    by_cases hk : k < nT
    · have hop : mk k ≠ 42 ∧ mk k ≠ 43 ∧ mk k ≠ 45 := hop hk
      by_cases h44 : mk k = 44
      · rw [if_pos (by rw [pS_lt hk]; exact h44), gR_s (x := ((2, x :: o), B)) hk (by rw [aTok_5]; unfold aBeh; rw [if_pos (Or.inr (Or.inr (Or.inr ⟨h44, hin, htp⟩)))])]
        obtain ⟨h1, h2⟩ := ihS (dp + 1) (x :: o) B (k + 1) haw (by simp [ho]) (by omega) (by omega) (by omega)
        have h3 := (pr_ok (nT := nT) (mk := mk) (tv := tv) (sl := sl) (nv := nv) f 0 (dp + 1) 0 0 0 (k + 1, false)).2.1 (show k + 1 ≤ nT by omega)
        refine h1.trans (ihL x dp o B _ _ hx ho hdp h3 h2 (by omega) (fun hq => ?_))
        obtain ⟨g, rfl⟩ : ∃ g, f = g + 2 := ⟨f - 2, by omega⟩
        have := pr0_one hq
        have : k + 1 + 1 ≤ _ := this
        show 5 * (nT - (pr nT mk tv sl nv (g + 2) 0 (dp + 1) 0 0 0 (k + 1, false)).1.1) + 1 ≤ _
        omega
      · rw [if_neg (by rw [pS_lt hk]; exact h44)]
        unfold pN
        simp only [pS_lt hk]
        by_cases h41 : mk k = 41
        · rw [if_pos h41, gP_f rfl]
          exact gR_s (x := (aClo (x :: o), B)) hk (by rw [aTok_5]; unfold aBeh; rw [if_neg (by omega), if_pos ⟨h41, hin⟩])
        · rw [if_neg h41, gP_t rfl]
          exact gR_n hk (by rw [aTok_5]; unfold aBeh; rw [if_neg (by omega), if_neg (by omega), if_neg (fun h => by rw [hin] at h; cases h.2)])
    · have hk3 : k = nT := by omega
      unfold pN
      simp only [pS_ge hk3]
      rw [gR_e hk3 (Or.inl (by simp))]
      rfl
theorem g_cal (ihS : gSum nT mk tv sl nv f) (ihL : gLst nT mk tv sl nv f) : gCal nT mk tv sl nv (f + 1) := by
  intro x dp nm o B k hx ho hdp hk h40 hf
  rw [pr, if_pos ⟨by rw [pS_lt hk]; exact h40, hdp⟩]
  have haw : aWh (x :: o) = x :: o := by rcases hx with rfl | rfl <;> rfl
  by_cases hk1 : k + 1 < nT
  · simp only [pS_lt hk1]
    by_cases h41 : mk (k + 1) = 41
    · rw [if_pos h41, gP_f rfl]
      exact gR_s (x := (aClo (x :: o), B)) hk1 (by rw [aTok_3, if_pos h41])
    · rw [if_neg h41]
      obtain ⟨h1, h2⟩ := ihS (dp + 1) (x :: o) B (k + 1) haw (by simp [ho]) (by omega) (by omega) (by omega)
      have h3 := (pr_ok (nT := nT) (mk := mk) (tv := tv) (sl := sl) (nv := nv) f 0 (dp + 1) 0 0 0 (k + 1, false)).2.1 (show k + 1 ≤ nT by omega)
      have h23 : gR nT mk (k + 1) (3, x :: o) B = gR nT mk (k + 1) (2, x :: o) B := by
        have h5 : aTok (mk (k + 1)) (k + 1) (3, x :: o) B = aTok (mk (k + 1)) (k + 1) (2, x :: o) B := by rw [aTok_3, aTok_2, if_neg h41]
        cases hx : aTok (mk (k + 1)) (k + 1) (2, x :: o) B with
        | none => rw [gR_n hk1 hx, gR_n hk1 (h5.trans hx)]
        | some y => rw [gR_s hk1 hx, gR_s hk1 (h5.trans hx)]
      refine h23.trans (h1.trans (ihL x dp o B _ _ hx ho hdp h3 h2 (by omega) (fun hq => ?_)))
      obtain ⟨g, rfl⟩ : ∃ g, f = g + 2 := ⟨f - 2, by omega⟩
      have := pr0_one hq
      have : k + 1 + 1 ≤ _ := this
      show 5 * (nT - (pr nT mk tv sl nv (g + 2) 0 (dp + 1) 0 0 0 (k + 1, false)).1.1) + 1 ≤ _
      omega
  · have hk3 : k + 1 = nT := by omega
    rw [if_neg (by show ¬ pS nT mk (k + 1, false) 41 = true; rw [pS_ge hk3]; decide)]
    obtain ⟨h1, h2⟩ := ihS (dp + 1) (x :: o) B (k + 1) haw (by simp [ho]) (by omega) (by omega) (by omega)
    have h3 := (pr_ok (nT := nT) (mk := mk) (tv := tv) (sl := sl) (nv := nv) f 0 (dp + 1) 0 0 0 (k + 1, false)).2.1 (show k + 1 ≤ nT by omega)
    have h23 : gR nT mk (k + 1) (3, x :: o) B = gR nT mk (k + 1) (2, x :: o) B := by
      rw [gR_e hk3 (Or.inl (by simp)), gR_e hk3 (Or.inl (by simp))]
    refine h23.trans (h1.trans (ihL x dp o B _ _ hx ho hdp h3 h2 (by omega) (fun hq => ?_)))
    obtain ⟨g, rfl⟩ : ∃ g, f = g + 2 := ⟨f - 2, by omega⟩
    have := pr0_one hq
    have : k + 1 + 1 ≤ _ := this
    show 5 * (nT - (pr nT mk tv sl nv (g + 2) 0 (dp + 1) 0 0 0 (k + 1, false)).1.1) + 1 ≤ _
    omega
variable (nT mk tv sl nv) in
theorem g_all : ∀ f, gFac nT mk tv sl nv f ∧ gSum nT mk tv sl nv f ∧ gTrm nT mk tv sl nv f ∧ gCal nT mk tv sl nv f ∧ gLst nT mk tv sl nv f
  | 0 => ⟨fun _ _ _ _ _ _ _ h => absurd h (by omega), fun _ _ _ _ _ _ _ _ h => absurd h (by omega), fun _ _ _ _ _ _ _ _ _ _ h => absurd h (by omega), fun _ _ _ _ _ _ _ _ _ _ _ h => absurd h (by omega), fun _ _ _ _ _ _ _ _ _ _ _ h => absurd h (by omega)⟩
  | f + 1 => by
    obtain ⟨h1, h2, h3, h4, h5⟩ := g_all f
    exact ⟨g_fac h2 h1 h4, g_sum h1 h3, g_trm h1 h3, g_cal h2 h5, g_lst h2 h5⟩
end
