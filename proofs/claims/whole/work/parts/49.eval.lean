/- the evaluator and the descent agree -/
theorem i32_a (t v : Int32) : -(t * (nI 0 - v)) = t * v := by
  have : nI 0 = (0 : Int32) := rfl
  rw [this]; grind
theorem i32_b (t v : Int32) : t * (nI 0 - v) = -(t * v) := by
  have : nI 0 = (0 : Int32) := rfl
  rw [this]; grind
theorem i32_c (v : Int32) : nI 1 * (nI 1 * v) = v := by
  have : nI 1 = (1 : Int32) := rfl
  rw [this]; grind
theorem i32_d (v : Int32) : (-1) * (nI 1 * v) = nI 0 - v := by
  have h1 : nI 1 = (1 : Int32) := rfl
  have h0 : nI 0 = (0 : Int32) := rfl
  rw [h1, h0]; grind
theorem i32_e (v : Int32) : nI 0 + nI 1 * (nI 1 * v) = v := by
  have h1 : nI 1 = (1 : Int32) := rfl
  have h0 : nI 0 = (0 : Int32) := rfl
  rw [h1, h0]; grind
theorem i32_f (g t v : Int32) : g * (t * v) = g * t * v := by grind
section
variable (nT : Nat) (mk : Nat → Nat) (tv : Nat → Int32) (sl : Nat → Nat) (nv : Nat → Int32) (fr la : Nat)
def hG (k : Nat) (fs : List eF) (nx : Bool) : Option (List eF) := eGo mk tv sl nv fr (la - k) k fs nx
def hFac (f : Nat) : Prop := ∀ (dp k m : Nat) (S g t li : Int32) (il : Bool) (r : List eF), r.length ≤ dp → dp ≤ 12 → 1 ≤ k → (k = fr ∨ mk (k - 1) ≠ 97) → fr ≤ k → m ≤ dp → k ≤ nT → 5 * (nT - k) + 1 ≤ f → (pr nT mk tv sl nv f 1 dp 0 0 0 (k, false)).1.2 = false → (pr nT mk tv sl nv f 1 dp 0 0 0 (k, false)).1.1 ≤ la →
  hG mk tv sl nv fr la k ((S, g, t, m, li, il) :: r) true = hG mk tv sl nv fr la (pr nT mk tv sl nv f 1 dp 0 0 0 (k, false)).1.1 (eTake (S, g, t, m, li, il) (pr nT mk tv sl nv f 1 dp 0 0 0 (k, false)).2 :: r) false ∧ mk ((pr nT mk tv sl nv f 1 dp 0 0 0 (k, false)).1.1 - 1) ≠ 40
def hSum (f : Nat) : Prop := ∀ (dp k : Nat) (li : Int32) (il : Bool) (r : List eF), r.length ≤ dp → dp ≤ 12 → 1 ≤ k → (k = fr ∨ mk (k - 1) ≠ 97) → fr ≤ k → k ≤ nT → 5 * (nT - k) + 2 ≤ f → (pr nT mk tv sl nv f 0 dp 0 0 0 (k, false)).1.2 = false → (pr nT mk tv sl nv f 0 dp 0 0 0 (k, false)).1.1 ≤ la →
  (∃ S g t, hG mk tv sl nv fr la k ((nI 0, nI 1, nI 1, 0, li, il) :: r) true = hG mk tv sl nv fr la (pr nT mk tv sl nv f 0 dp 0 0 0 (k, false)).1.1 ((S, g, t, 0, li, il) :: r) false ∧ S + g * t = (pr nT mk tv sl nv f 0 dp 0 0 0 (k, false)).2) ∧ mk ((pr nT mk tv sl nv f 0 dp 0 0 0 (k, false)).1.1 - 1) ≠ 40
def hTrm (f : Nat) : Prop := ∀ (dp k : Nat) (S g t li : Int32) (il : Bool) (r : List eF), r.length ≤ dp → dp ≤ 12 → 1 ≤ k → fr ≤ k → k ≤ nT → 5 * (nT - k) + 1 ≤ f → mk (k - 1) ≠ 40 → (pr nT mk tv sl nv f 3 dp 0 S (g * t) (k, false)).1.2 = false → (pr nT mk tv sl nv f 3 dp 0 S (g * t) (k, false)).1.1 ≤ la →
  (∃ S' g' t', hG mk tv sl nv fr la k ((S, g, t, 0, li, il) :: r) false = hG mk tv sl nv fr la (pr nT mk tv sl nv f 3 dp 0 S (g * t) (k, false)).1.1 ((S', g', t', 0, li, il) :: r) false ∧ S' + g' * t' = (pr nT mk tv sl nv f 3 dp 0 S (g * t) (k, false)).2) ∧ mk ((pr nT mk tv sl nv f 3 dp 0 S (g * t) (k, false)).1.1 - 1) ≠ 40
def hCal (f : Nat) : Prop := ∀ (dp k : Nat) (x : eF) (r : List eF) (nx : Bool), r.length ≤ dp → dp ≤ 12 → 1 ≤ k → mk (k - 1) = 97 → fr < k → k ≤ nT → 5 * (nT - k) + 1 ≤ f → (pr nT mk tv sl nv f 2 dp (k - 1) 0 0 (k, false)).1.2 = false → (pr nT mk tv sl nv f 2 dp (k - 1) 0 0 (k, false)).1.1 ≤ la →
  hG mk tv sl nv fr la k (x :: r) nx = hG mk tv sl nv fr la (pr nT mk tv sl nv f 2 dp (k - 1) 0 0 (k, false)).1.1 (eTake x (pr nT mk tv sl nv f 2 dp (k - 1) 0 0 (k, false)).2 :: r) false ∧ mk ((pr nT mk tv sl nv f 2 dp (k - 1) 0 0 (k, false)).1.1 - 1) ≠ 40
def hLst (f : Nat) : Prop := ∀ (dp k : Nat) (S g t li : Int32) (x : eF) (r : List eF), r.length ≤ dp → dp < 12 → 1 ≤ k → fr ≤ k → k ≤ nT → 5 * (nT - k) + 1 ≤ f → mk (k - 1) ≠ 40 → (pr nT mk tv sl nv f 4 dp 0 (nI 31 * li + (S + g * t)) 0 (k, false)).1.2 = false → (pr nT mk tv sl nv f 4 dp 0 (nI 31 * li + (S + g * t)) 0 (k, false)).1.1 ≤ la →
  hG mk tv sl nv fr la k ((S, g, t, 0, li, true) :: x :: r) false = hG mk tv sl nv fr la (pr nT mk tv sl nv f 4 dp 0 (nI 31 * li + (S + g * t)) 0 (k, false)).1.1 (eTake x (pr nT mk tv sl nv f 4 dp 0 (nI 31 * li + (S + g * t)) 0 (k, false)).2 :: r) false ∧ mk ((pr nT mk tv sl nv f 4 dp 0 (nI 31 * li + (S + g * t)) 0 (k, false)).1.1 - 1) ≠ 40
end
section
variable {nT : Nat} {mk : Nat → Nat} {tv : Nat → Int32} {sl : Nat → Nat} {nv : Nat → Int32} {fr la f : Nat}
theorem hG_s {k : Nat} {x : eF} {r : List eF} {nx : Bool} {y : List eF × Bool} (hk : k < la) (h : eStp mk tv sl nv fr k x r nx = some y) : hG mk tv sl nv fr la k (x :: r) nx = hG mk tv sl nv fr la (k + 1) y.1 y.2 := by
  unfold hG
  obtain ⟨g, hg⟩ : ∃ g, la - k = g + 1 := ⟨la - k - 1, by omega⟩
  have hg2 : la - (k + 1) = g := by omega
  rw [hg, hg2, eGo, h]
theorem pr_uns {f tag dp nm : Nat} {a b : Int32} {s : pE} (h : (pr nT mk tv sl nv f tag dp nm a b s).1.2 = false) : s.2 = false := by
  cases hs : s.2 with
  | false => rfl
  | true => rw [(pr_ok (nT := nT) (mk := mk) (tv := tv) (sl := sl) (nv := nv) f tag dp nm a b s).2.2 hs, hs] at h; cases h
theorem h_fac (hla : la < nT) (ihS : hSum nT mk tv sl nv fr la f) (ihF : hFac nT mk tv sl nv fr la f) (ihC : hCal nT mk tv sl nv fr la f) : hFac nT mk tv sl nv fr la (f + 1) := by
  intro dp k m S g t li il r hr hdp hk1 hpre hfr hm hk hf hu hl
  have hone := pr1_one hu
  have hone : k + 1 ≤ (pr nT mk tv sl nv (f + 1) 1 dp 0 0 0 (k, false)).1.1 := hone
  have hkl : k < la := by omega
  have hkn : k < nT := by omega
  rw [pr] at hu hl ⊢
  simp only [pS_lt hkn] at hu hl ⊢
  by_cases h48 : mk k = 48
  · simp only [if_pos h48]
    refine ⟨hG_s (y := (eTake (S, g, t, m, li, il) (tv k) :: r, false)) hkl ?_, by show mk (k + 1 - 1) ≠ 40; rw [Nat.add_sub_cancel, h48]; decide⟩
    simp [eStp, h48, lSig, eVal]
  simp only [if_neg h48] at hu hl ⊢
  by_cases h34 : mk k = 34
  · simp only [if_pos h34]
    refine ⟨hG_s (y := (eTake (S, g, t, m, li, il) (nI (sl k) - nI 2) :: r, false)) hkl ?_, by show mk (k + 1 - 1) ≠ 40; rw [Nat.add_sub_cancel, h34]; decide⟩
    simp [eStp, h34, lSig, eVal]
  simp only [if_neg h34] at hu hl ⊢
  by_cases h97 : mk k = 97
  · simp only [if_pos h97] at hu hl ⊢
    by_cases h40 : pS nT mk (k + 1, false) 40 = true
    · obtain ⟨-, q1, q2⟩ := pS_iff.mp h40
      have q1 : k + 1 < nT := q1
      have q2 : mk (k + 1) = 40 := q2
      simp only [if_pos h40] at hu hl ⊢
      have h1 := ihC dp (k + 1) (S, g, t, m, li, il) r false hr hdp (by omega) (by rw [Nat.add_sub_cancel]; exact h97) (by omega) (by omega) (by omega)
      rw [Nat.add_sub_cancel] at h1
      obtain ⟨h1, h2⟩ := h1 hu hl
      refine ⟨(hG_s (y := ((S, g, t, m, li, il) :: r, false)) hkl ?_).trans h1, h2⟩
      simp [eStp, h97, lSig, q2]
    · simp only [if_neg h40] at hu hl ⊢
      have q2 : mk (k + 1) ≠ 40 := fun hc => h40 (pS_iff.mpr ⟨rfl, by show k + 1 < nT; omega, hc⟩)
      refine ⟨hG_s (y := (eTake (S, g, t, m, li, il) (nv k) :: r, false)) hkl ?_, by show mk (k + 1 - 1) ≠ 40; rw [Nat.add_sub_cancel, h97]; decide⟩
      simp [eStp, h97, lSig, eVal, q2]
  simp only [if_neg h97] at hu hl ⊢
  by_cases h45 : mk k = 45
  · simp only [if_pos h45] at hu hl ⊢
    by_cases h12 : 12 ≤ dp
    · simp only [if_pos h12] at hu; cases hu
    · simp only [if_neg h12] at hu hl ⊢
      obtain ⟨h1, h2⟩ := ihF (dp + 1) (k + 1) (m + 1) S g t li il r (by omega) (by omega) (by omega) (Or.inr (by rw [Nat.add_sub_cancel, h45]; decide)) (by omega) (by omega) (by omega) (by omega) hu hl
      refine ⟨(hG_s (y := ((S, g, t, m + 1, li, il) :: r, true)) hkl ?_).trans (h1.trans ?_), h2⟩
      · simp [eStp, h45]; omega
      · congr 2
        unfold eTake
        show (S, g, (if (m + 1) % 2 = 1 then _ else _), 0, li, il) = (S, g, (if m % 2 = 1 then _ else _), 0, li, il)
        by_cases hm2 : m % 2 = 1
        · rw [if_neg (by omega), if_pos hm2]
          show (S, g, t * _, 0, li, il) = (S, g, -(t * _), 0, li, il)
          rw [i32_a]
        · rw [if_pos (by omega), if_neg hm2]
          show (S, g, -(t * _), 0, li, il) = (S, g, t * _, 0, li, il)
          rw [i32_b]
  simp only [if_neg h45] at hu hl ⊢
  by_cases h40 : mk k = 40
  · simp only [if_pos h40] at hu hl ⊢
    by_cases h12 : 12 ≤ dp
    · simp only [if_pos h12] at hu; cases hu
    · simp only [if_neg h12] at hu hl ⊢
      have hu0 : (pr nT mk tv sl nv f 0 (dp + 1) 0 0 0 (k + 1, false)).1.2 = false := by
        cases hq : (pr nT mk tv sl nv f 0 (dp + 1) 0 0 0 (k + 1, false)).1.2 with
        | false => rfl
        | true => rw [(pN_ok (nT := nT) (mk := mk) (pr nT mk tv sl nv f 0 (dp + 1) 0 0 0 (k + 1, false)).1 41).2.2 hq, hq] at hu; cases hu
      have h41 : pS nT mk (pr nT mk tv sl nv f 0 (dp + 1) 0 0 0 (k + 1, false)).1 41 = true := by
        cases hq : pS nT mk (pr nT mk tv sl nv f 0 (dp + 1) 0 0 0 (k + 1, false)).1 41 with
        | true => rfl
        | false => unfold pN at hu; rw [if_neg (by rw [hq]; decide)] at hu; cases hu
      have hp : pN nT mk (pr nT mk tv sl nv f 0 (dp + 1) 0 0 0 (k + 1, false)).1 41 = ((pr nT mk tv sl nv f 0 (dp + 1) 0 0 0 (k + 1, false)).1.1 + 1, (pr nT mk tv sl nv f 0 (dp + 1) 0 0 0 (k + 1, false)).1.2) := if_pos h41
      rw [hp] at hl ⊢
      have hl : (pr nT mk tv sl nv f 0 (dp + 1) 0 0 0 (k + 1, false)).1.1 + 1 ≤ la := hl
      obtain ⟨⟨S', g', t', h1, h3⟩, h2⟩ := ihS (dp + 1) (k + 1) (nI 0) false ((S, g, t, m, li, il) :: r) (by simp; omega) (by omega) (by omega) (Or.inr (by rw [Nat.add_sub_cancel, h40]; decide)) (by omega) (by omega) (by omega) hu0 (by omega)
      have hc := (pS_iff.mp h41).2.2
      have hge : k + 1 ≤ (pr nT mk tv sl nv f 0 (dp + 1) 0 0 0 (k + 1, false)).1.1 := (pr_ok (nT := nT) (mk := mk) (tv := tv) (sl := sl) (nv := nv) f 0 (dp + 1) 0 0 0 (k + 1, false)).1
      generalize pr nT mk tv sl nv f 0 (dp + 1) 0 0 0 (k + 1, false) = R at hl h1 h3 h2 hc hge ⊢
      refine ⟨(hG_s (y := ((nI 0, nI 1, nI 1, 0, nI 0, false) :: (S, g, t, m, li, il) :: r, true)) hkl ?_).trans (h1.trans (hG_s (y := (eTake (S, g, t, m, li, il) R.2 :: r, false)) (by omega) ?_)), ?_⟩
      · have hcl : ¬ (mk (k - 1) = 97 ∧ fr < k) := by omega
        simp [eStp, h40, hcl]; omega
      · simp [eStp, hc, eLv, eTot, h3]; omega
      · show mk (R.1.1 + 1 - 1) ≠ 40; rw [Nat.add_sub_cancel, hc]; decide
  · simp only [if_neg h40] at hu; cases hu
theorem h_trm (hla : la < nT) (ihF : hFac nT mk tv sl nv fr la f) (ihT : hTrm nT mk tv sl nv fr la f) : hTrm nT mk tv sl nv fr la (f + 1) := by
  intro dp k S g t li il r hr hdp hk1 hfr hk hf hpv hu hl
  rw [pr_3] at hu hl ⊢
  simp only [if_neg (show ¬ false = true by decide)] at hu hl ⊢
  by_cases hkn : k < nT
  · simp only [pS_lt hkn] at hu hl ⊢
    have key : ∀ (S1 g1 : Int32), (∀ v, ∃ t', (eTake (S1, g1, (if mk k = 42 then t else nI 1), 0, li, il) v = (S1, g1, t', 0, li, il) ∧ t' = (if mk k = 42 then t else nI 1) * v)) := fun S1 g1 v => ⟨_, rfl, by simp⟩
    have go : ∀ (S1 g1 t1 : Int32), mk k = 42 ∨ mk k = 43 ∨ mk k = 45 → eOp (mk k) (S, g, t, 0, li, il) = (S1, g1, t1, 0, li, il) → (pr nT mk tv sl nv f 3 dp 0 S1 (g1 * (t1 * (pr nT mk tv sl nv f 1 dp 0 0 0 (k + 1, false)).2)) (pr nT mk tv sl nv f 1 dp 0 0 0 (k + 1, false)).1).1.2 = false → (pr nT mk tv sl nv f 3 dp 0 S1 (g1 * (t1 * (pr nT mk tv sl nv f 1 dp 0 0 0 (k + 1, false)).2)) (pr nT mk tv sl nv f 1 dp 0 0 0 (k + 1, false)).1).1.1 ≤ la →
      (∃ S' g' t', hG mk tv sl nv fr la k ((S, g, t, 0, li, il) :: r) false = hG mk tv sl nv fr la (pr nT mk tv sl nv f 3 dp 0 S1 (g1 * (t1 * (pr nT mk tv sl nv f 1 dp 0 0 0 (k + 1, false)).2)) (pr nT mk tv sl nv f 1 dp 0 0 0 (k + 1, false)).1).1.1 ((S', g', t', 0, li, il) :: r) false ∧ S' + g' * t' = (pr nT mk tv sl nv f 3 dp 0 S1 (g1 * (t1 * (pr nT mk tv sl nv f 1 dp 0 0 0 (k + 1, false)).2)) (pr nT mk tv sl nv f 1 dp 0 0 0 (k + 1, false)).1).2) ∧ mk ((pr nT mk tv sl nv f 3 dp 0 S1 (g1 * (t1 * (pr nT mk tv sl nv f 1 dp 0 0 0 (k + 1, false)).2)) (pr nT mk tv sl nv f 1 dp 0 0 0 (k + 1, false)).1).1.1 - 1) ≠ 40 := by
      intro S1 g1 t1 hc hop hu hl
      have hu1 := pr_uns hu
      have hmon := (pr_ok (nT := nT) (mk := mk) (tv := tv) (sl := sl) (nv := nv) f 3 dp 0 S1 (g1 * (t1 * (pr nT mk tv sl nv f 1 dp 0 0 0 (k + 1, false)).2)) (pr nT mk tv sl nv f 1 dp 0 0 0 (k + 1, false)).1).1
      obtain ⟨f', hf'⟩ : ∃ f', f = f' + 1 := ⟨f - 1, by omega⟩
      have hone : k + 1 + 1 ≤ (pr nT mk tv sl nv f 1 dp 0 0 0 (k + 1, false)).1.1 := by subst hf'; exact pr1_one hu1
      have hin := (pr_ok (nT := nT) (mk := mk) (tv := tv) (sl := sl) (nv := nv) f 1 dp 0 0 0 (k + 1, false)).2.1 (show k + 1 ≤ nT by omega)
      obtain ⟨h1, h2⟩ := ihF dp (k + 1) 0 S1 g1 t1 li il r hr hdp (by omega) (Or.inr (by rw [Nat.add_sub_cancel]; omega)) (by omega) (by omega) (by omega) (by omega) hu1 (by omega)
      generalize hR : pr nT mk tv sl nv f 1 dp 0 0 0 (k + 1, false) = R at hu hl hu1 hmon hone hin h1 h2 ⊢
      obtain ⟨⟨k', u⟩, v⟩ := R
      obtain rfl : u = false := hu1
      obtain ⟨⟨S', g', t', h3, h4⟩, h5⟩ := ihT dp k' S1 g1 (t1 * v) li il r hr hdp (by have : k + 1 + 1 ≤ k' := hone; omega) (by have : k + 1 + 1 ≤ k' := hone; omega) hin (by have : k + 1 + 1 ≤ k' := hone; omega) h2 hu hl
      refine ⟨⟨S', g', t', (hG_s (y := ((S1, g1, t1, 0, li, il) :: r, true)) (by have : k + 1 + 1 ≤ k' := hone; have : k' ≤ _ := hmon; omega) ?_).trans (h1.trans h3), h4⟩, h5⟩
      rcases hc with hc | hc | hc <;> rw [hc] at hop <;> simp [eStp, hc, lSig, hop]
    by_cases h42 : mk k = 42
    · simp only [if_pos h42] at hu hl ⊢
      have hE : g * t * (pr nT mk tv sl nv f 1 dp 0 0 0 (k + 1, false)).2 = g * (t * (pr nT mk tv sl nv f 1 dp 0 0 0 (k + 1, false)).2) := (i32_f _ _ _).symm
      rw [hE] at hu hl ⊢
      exact go S g t (Or.inl h42) (by rw [h42]; simp [eOp]) hu hl
    simp only [if_neg h42] at hu hl ⊢
    by_cases h43 : mk k = 43
    · simp only [if_pos h43] at hu hl ⊢
      have hE : (pr nT mk tv sl nv f 1 dp 0 0 0 (k + 1, false)).2 = nI 1 * (nI 1 * (pr nT mk tv sl nv f 1 dp 0 0 0 (k + 1, false)).2) := (i32_c _).symm
      rw [hE] at hu hl ⊢
      exact go (S + g * t) (nI 1) (nI 1) (Or.inr (Or.inl h43)) (by rw [h43]; simp [eOp, eTot]) hu hl
    simp only [if_neg h43] at hu hl ⊢
    by_cases h45 : mk k = 45
    · simp only [if_pos h45] at hu hl ⊢
      have hE : nI 0 - (pr nT mk tv sl nv f 1 dp 0 0 0 (k + 1, false)).2 = (-1) * (nI 1 * (pr nT mk tv sl nv f 1 dp 0 0 0 (k + 1, false)).2) := (i32_d _).symm
      rw [hE] at hu hl ⊢
      exact go (S + g * t) (-1) (nI 1) (Or.inr (Or.inr h45)) (by rw [h45]; simp [eOp, eTot]) hu hl
    simp only [if_neg h45] at hu hl ⊢
    exact ⟨⟨S, g, t, rfl, rfl⟩, hpv⟩
  · simp only [pS_ge (show k = nT by omega)] at hu hl ⊢
    exact ⟨⟨S, g, t, rfl, rfl⟩, hpv⟩
theorem h_sum (hla : la < nT) (ihF : hFac nT mk tv sl nv fr la f) (ihT : hTrm nT mk tv sl nv fr la f) : hSum nT mk tv sl nv fr la (f + 1) := by
  intro dp k li il r hr hdp hk1 hpre hfr hk hf hu hl
  rw [pr] at hu hl ⊢
  have hu1 := pr_uns hu
  have hmon := (pr_ok (nT := nT) (mk := mk) (tv := tv) (sl := sl) (nv := nv) f 3 dp 0 (nI 0) (pr nT mk tv sl nv f 1 dp 0 0 0 (k, false)).2 (pr nT mk tv sl nv f 1 dp 0 0 0 (k, false)).1).1
  obtain ⟨f', hf'⟩ : ∃ f', f = f' + 1 := ⟨f - 1, by omega⟩
  have hone : k + 1 ≤ (pr nT mk tv sl nv f 1 dp 0 0 0 (k, false)).1.1 := by subst hf'; exact pr1_one hu1
  have hin := (pr_ok (nT := nT) (mk := mk) (tv := tv) (sl := sl) (nv := nv) f 1 dp 0 0 0 (k, false)).2.1 hk
  obtain ⟨h1, h2⟩ := ihF dp k 0 (nI 0) (nI 1) (nI 1) li il r hr hdp hk1 hpre hfr (by omega) hk (by omega) hu1 (by omega)
  generalize hR : pr nT mk tv sl nv f 1 dp 0 0 0 (k, false) = R at hu hl hu1 hmon hone hin h1 h2 ⊢
  obtain ⟨⟨k', u⟩, v⟩ := R
  obtain rfl : u = false := hu1
  have hone : k + 1 ≤ k' := hone
  have hE : v = nI 1 * (nI 1 * v) := (i32_c v).symm
  have h3 := ihT dp k' (nI 0) (nI 1) (nI 1 * v) li il r hr hdp (by omega) (by omega) hin (by omega) h2
  rw [← hE] at h3
  obtain ⟨⟨S', g', t', h3, h4⟩, h5⟩ := h3 hu hl
  exact ⟨⟨S', g', t', h1.trans h3, h4⟩, h5⟩
theorem h_lst (hla : la < nT) (ihS : hSum nT mk tv sl nv fr la f) (ihL : hLst nT mk tv sl nv fr la f) : hLst nT mk tv sl nv fr la (f + 1) := by
  intro dp k S g t li x r hr hdp hk1 hfr hk hf hpv hu hl
  rw [pr_4] at hu hl ⊢
  by_cases h44 : pS nT mk (k, false) 44 = true
  · obtain ⟨-, hkn, hc⟩ := pS_iff.mp h44
    have hkn : k < nT := hkn
    have hc : mk k = 44 := hc
    simp only [if_pos h44] at hu hl ⊢
    have hu1 := pr_uns hu
    have hmon := (pr_ok (nT := nT) (mk := mk) (tv := tv) (sl := sl) (nv := nv) f 4 dp 0 (nI 31 * (nI 31 * li + (S + g * t)) + (pr nT mk tv sl nv f 0 (dp + 1) 0 0 0 (k + 1, false)).2) 0 (pr nT mk tv sl nv f 0 (dp + 1) 0 0 0 (k + 1, false)).1).1
    obtain ⟨f', hf'⟩ : ∃ f', f = f' + 2 := ⟨f - 2, by omega⟩
    have hone : k + 1 + 1 ≤ (pr nT mk tv sl nv f 0 (dp + 1) 0 0 0 (k + 1, false)).1.1 := by subst hf'; exact pr0_one hu1
    have hin := (pr_ok (nT := nT) (mk := mk) (tv := tv) (sl := sl) (nv := nv) f 0 (dp + 1) 0 0 0 (k + 1, false)).2.1 (show k + 1 ≤ nT by omega)
    obtain ⟨⟨S1, g1, t1, h1, h3⟩, h2⟩ := ihS (dp + 1) (k + 1) (nI 31 * li + (S + g * t)) true (x :: r) (by simp; omega) (by omega) (by omega) (Or.inr (by rw [Nat.add_sub_cancel, hc]; decide)) (by omega) (by omega) (by omega) hu1 (by omega)
    generalize hR : pr nT mk tv sl nv f 0 (dp + 1) 0 0 0 (k + 1, false) = R at hu hl hu1 hmon hone hin h1 h2 h3 ⊢
    obtain ⟨⟨k', u⟩, v⟩ := R
    obtain rfl : u = false := hu1
    have hone : k + 1 + 1 ≤ k' := hone
    have h3 : S1 + g1 * t1 = v := h3
    subst h3
    obtain ⟨h4, h5⟩ := ihL dp k' S1 g1 t1 (nI 31 * li + (S + g * t)) x r hr hdp (by omega) (by omega) hin (by omega) h2 hu hl
    refine ⟨(hG_s (y := ((nI 0, nI 1, nI 1, 0, nI 31 * li + (S + g * t), true) :: x :: r, true)) (by have : k' ≤ _ := hmon; omega) ?_).trans (h1.trans h4), h5⟩
    simp [eStp, hc, lSig, eOp, eTot]
  · simp only [if_neg h44] at hu hl ⊢
    have h41 : pS nT mk (k, false) 41 = true := by
      cases hq : pS nT mk (k, false) 41 with
      | true => rfl
      | false => unfold pN at hu; rw [if_neg (by rw [hq]; decide)] at hu; cases hu
    obtain ⟨-, hkn, hc⟩ := pS_iff.mp h41
    have hc : mk k = 41 := hc
    have hp : pN nT mk (k, false) 41 = (k + 1, false) := if_pos h41
    rw [hp] at hl ⊢
    have hl : k + 1 ≤ la := hl
    refine ⟨hG_s (y := (eTake x (nI 31 * li + (S + g * t)) :: r, false)) (by omega) ?_, by show mk (k + 1 - 1) ≠ 40; rw [Nat.add_sub_cancel, hc]; decide⟩
    simp [eStp, hc, eLv, eTot, hpv]; omega
theorem h_cal (hla : la < nT) (ihS : hSum nT mk tv sl nv fr la f) (ihL : hLst nT mk tv sl nv fr la f) : hCal nT mk tv sl nv fr la (f + 1) := by
  intro dp k x r nx hr hdp hk1 hpre hfr hk hf hu hl
  rw [pr] at hu hl ⊢
  by_cases h40 : pS nT mk (k, false) 40 = true ∧ dp < 12
  · obtain ⟨-, hkn, hc⟩ := pS_iff.mp h40.1
    have hkn : k < nT := hkn
    have hc : mk k = 40 := hc
    simp only [if_pos h40] at hu hl ⊢
    have hst : k < la → hG mk tv sl nv fr la k (x :: r) nx = hG mk tv sl nv fr la (k + 1) ((nI 0, nI 1, nI 1, 0, nI (sl (k - 1)), true) :: x :: r) true := fun h => hG_s (y := ((nI 0, nI 1, nI 1, 0, nI (sl (k - 1)), true) :: x :: r, true)) h (by simp [eStp, hc, hpre, hfr]; omega)
    by_cases h41 : pS nT mk (k + 1, false) 41 = true
    · obtain ⟨-, q1, q2⟩ := pS_iff.mp h41
      have q2 : mk (k + 1) = 41 := q2
      simp only [if_pos h41] at hu hl ⊢
      have hl : k + 2 ≤ la := hl
      refine ⟨(hst (by omega)).trans (hG_s (y := (eTake x (nI (sl (k - 1))) :: r, false)) (by omega) ?_), by show mk (k + 2 - 1) ≠ 40; rw [show k + 2 - 1 = k + 1 by omega, q2]; decide⟩
      simp [eStp, q2, eLv, hc]
    · simp only [if_neg h41] at hu hl ⊢
      have hu1 := pr_uns hu
      have hmon := (pr_ok (nT := nT) (mk := mk) (tv := tv) (sl := sl) (nv := nv) f 4 dp 0 (nI 31 * nI (sl (k - 1)) + (pr nT mk tv sl nv f 0 (dp + 1) 0 0 0 (k + 1, false)).2) 0 (pr nT mk tv sl nv f 0 (dp + 1) 0 0 0 (k + 1, false)).1).1
      obtain ⟨f', hf'⟩ : ∃ f', f = f' + 2 := ⟨f - 2, by omega⟩
      have hone : k + 1 + 1 ≤ (pr nT mk tv sl nv f 0 (dp + 1) 0 0 0 (k + 1, false)).1.1 := by subst hf'; exact pr0_one hu1
      have hin := (pr_ok (nT := nT) (mk := mk) (tv := tv) (sl := sl) (nv := nv) f 0 (dp + 1) 0 0 0 (k + 1, false)).2.1 (show k + 1 ≤ nT by omega)
      obtain ⟨⟨S1, g1, t1, h1, h3⟩, h2⟩ := ihS (dp + 1) (k + 1) (nI (sl (k - 1))) true (x :: r) (by simp; omega) (by omega) (by omega) (Or.inr (by rw [Nat.add_sub_cancel, hc]; decide)) (by omega) (by omega) (by omega) hu1 (by omega)
      generalize hR : pr nT mk tv sl nv f 0 (dp + 1) 0 0 0 (k + 1, false) = R at hu hl hu1 hmon hone hin h1 h2 h3 ⊢
      obtain ⟨⟨k', u⟩, v⟩ := R
      obtain rfl : u = false := hu1
      have hone : k + 1 + 1 ≤ k' := hone
      have h3 : S1 + g1 * t1 = v := h3
      subst h3
      obtain ⟨h4, h5⟩ := ihL dp k' S1 g1 t1 (nI (sl (k - 1))) x r hr h40.2 (by omega) (by omega) hin (by omega) h2 hu hl
      exact ⟨(hst (by have : k' ≤ _ := hmon; omega)).trans (h1.trans h4), h5⟩
  · simp only [if_neg h40] at hu; cases hu
variable (mk tv sl nv fr) in
theorem h_all (hla : la < nT) : ∀ f, hFac nT mk tv sl nv fr la f ∧ hSum nT mk tv sl nv fr la f ∧ hTrm nT mk tv sl nv fr la f ∧ hCal nT mk tv sl nv fr la f ∧ hLst nT mk tv sl nv fr la f
  | 0 => ⟨fun _ _ _ _ _ _ _ _ _ _ _ _ _ _ _ _ h => absurd h (by omega), fun _ _ _ _ _ _ _ _ _ _ _ h => absurd h (by omega), fun _ _ _ _ _ _ _ _ _ _ _ _ _ h => absurd h (by omega), fun _ _ _ _ _ _ _ _ _ _ _ h => absurd h (by omega), fun _ _ _ _ _ _ _ _ _ _ _ _ _ h => absurd h (by omega)⟩
  | f + 1 => by
    obtain ⟨h1, h2, h3, h4, h5⟩ := h_all hla f
    exact ⟨h_fac hla h2 h1 h4, h_sum hla h1 h3, h_trm hla h1 h3, h_cal hla h2 h5, h_lst hla h2 h5⟩
/-- an item name = sum; -/
theorem ev_def {dp a : Nat} {v : Int32} (hla : la < nT) (hdp : dp ≤ 12) (hn : nT ≤ 160) (h : pr nT mk tv sl nv 810 0 dp 0 0 0 (a + 2, false) = ((la, false), v)) (ha : a + 2 ≤ la) : ∃ x, eGo mk tv sl nv (a + 2) (la - (a + 2)) (a + 2) [eFirst] true = some [x] ∧ eTot x = v := by
  obtain ⟨⟨S, g, t, h1, h2⟩, -⟩ := (h_all mk tv sl nv (a + 2) hla 810).2.1 dp (a + 2) (nI 0) false [] (by simp) hdp (by omega) (Or.inl rfl) (Nat.le_refl _) (by omega) (by omega) (by rw [h]) (by rw [h]; exact Nat.le_refl _)
  rw [h] at h1 h2
  refine ⟨(S, g, t, 0, nI 0, false), ?_, h2⟩
  refine (show _ = _ from h1).trans ?_
  show hG mk tv sl nv (a + 2) la la _ _ = _
  unfold hG
  rw [Nat.sub_self, eGo]
/-- an item name(list); -/
theorem ev_cal {dp a : Nat} {v : Int32} (hla : la < nT) (hdp : dp ≤ 12) (hn : nT ≤ 160) (h97 : mk a = 97) (h40 : mk (a + 1) = 40) (h : pr nT mk tv sl nv 810 2 dp a 0 0 (a + 1, false) = ((la, false), v)) (ha : a + 1 ≤ la) : ∃ x, eGo mk tv sl nv a (la - a) a [eFirst] true = some [x] ∧ eTot x = v := by
  have h1 := (h_all mk tv sl nv a hla 810).2.2.2.1 dp (a + 1) eFirst [] false (by simp) hdp (by omega) (by rw [Nat.add_sub_cancel]; exact h97) (by omega) (by omega) (by omega)
  rw [Nat.add_sub_cancel, h] at h1
  obtain ⟨h1, -⟩ := h1 rfl (Nat.le_refl _)
  refine ⟨eTake eFirst v, ?_, ?_⟩
  · have h0 : hG mk tv sl nv a la a [eFirst] true = hG mk tv sl nv a la (a + 1) [eFirst] false := hG_s (y := ([eFirst], false)) (by omega) (by simp [eStp, h97, lSig, h40])
    refine (show _ = _ from h0).trans (h1.trans ?_)
    show hG mk tv sl nv a la la _ _ = _
    unfold hG
    rw [Nat.sub_self, eGo]
  · show nI 0 + nI 1 * (nI 1 * v) = v
    exact i32_e v
end
