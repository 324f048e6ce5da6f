/- what the tree that reading makes is like -/
section
variable {nT : Nat} {mk : Nat → Nat} {tv : Nat → Int32} {sl : Nat → Nat} {nv nv' : Nat → Int32} {same : Nat → Nat → Bool}
theorem pr_cg (h : ∀ z, z < nT → mk z = 97 → nv z = nv' z) : ∀ (f tag dp nm : Nat) (a b : Int32) (s : pE), pr nT mk tv sl nv f tag dp nm a b s = pr nT mk tv sl nv' f tag dp nm a b s
  | 0, tag, dp, nm, a, b, s => by rw [pr, pr]
  | f + 1, 0, dp, nm, a, b, s => by rw [pr, pr]; simp only [pr_cg h f]
  | f + 1, 1, dp, nm, a, b, s => by
    by_cases h97 : pS nT mk s 97 = true
    · obtain ⟨-, h1, h2⟩ := pS_iff.mp h97
      rw [pr, pr, h s.1 h1 h2]; simp only [pr_cg h f]
    · rw [pr, pr]; simp only [pr_cg h f, if_neg h97]
  | f + 1, 2, dp, nm, a, b, s => by rw [pr, pr]; simp only [pr_cg h f]
  | f + 1, 3, dp, nm, a, b, s => by rw [pr, pr]; simp only [pr_cg h f]
  | f + 1, tag + 4, dp, nm, a, b, s => by
    rw [pr, pr]
    · simp only [pr_cg h f]
    all_goals omega
theorem pNv_cg {fi fi' : Nat → Nat} {va va' : Nat → Int32} {nm : Nat} : ∀ (j : Nat), (∀ i, i < j → fi i = fi' i ∧ (va i = va' i ∨ same (fi i) nm = false)) → pNv nT mk same fi va j nm = pNv nT mk same fi' va' j nm
  | 0, _ => rfl
  | j + 1, h => by
    rw [pNv, pNv, pNv_cg j (fun i hi => h i (by omega))]
    obtain ⟨h1, h2⟩ := h j (by omega)
    rw [← h1]
    rcases h2 with h2 | h2
    · rw [h2]
    · rw [if_neg (fun hc => by rw [h2] at hc; cases hc.2), if_neg (fun hc => by rw [h2] at hc; cases hc.2)]
end
/-- how many items of f from s on are at level d -/
def cntL (V : Nat → Int32) (d : Nat) : Nat → Nat → Nat
  | 0, _ => 0
  | f + 1, s => (if V s = nI d then 1 else 0) + cntL V d f (s + 1)
theorem cntL_cg {V V' : Nat → Int32} {d : Nat} : ∀ (f s : Nat), (∀ i, s ≤ i → i < s + f → V i = V' i) → cntL V d f s = cntL V' d f s
  | 0, _, _ => rfl
  | f + 1, s, h => by rw [cntL, cntL, h s (by omega) (by omega), cntL_cg f (s + 1) (fun i h1 h2 => h i (by omega) (by omega))]
theorem cntL_add {V : Nat → Int32} {d : Nat} : ∀ (f g s : Nat), cntL V d (f + g) s = cntL V d f s + cntL V d g (s + f)
  | 0, g, s => by rw [cntL, Nat.zero_add, Nat.zero_add, Nat.add_zero]
  | f + 1, g, s => by
    rw [show f + 1 + g = (f + g) + 1 by omega, cntL, cntL, cntL_add f g (s + 1), show s + 1 + f = s + (f + 1) by omega]
    omega
theorem cntL_no {V : Nat → Int32} {d : Nat} : ∀ (f s : Nat), (∀ i, s ≤ i → i < s + f → V i ≠ nI d) → cntL V d f s = 0
  | 0, _, _ => rfl
  | f + 1, s, h => by rw [cntL, if_neg (h s (by omega) (by omega)), cntL_no f (s + 1) (fun i h1 h2 => h i (by omega) (by omega))]
section
variable (nT : Nat) (mk : Nat → Nat) (tv : Nat → Int32) (sl : Nat → Nat) (same : Nat → Nat → Bool)
/-- item j of a tree of hi items is whole -/
def itOk (T : pTr) (hi j : Nat) : Prop := ∃ a z dp, T.2.1 j = nI a ∧ T.2.2.1 j = nI z ∧ T.2.2.2.1 j = nI dp ∧ a ≤ z ∧ z < nT ∧ dp ≤ 12 ∧
  ((mk a = 123 ∧ ∃ m, j < m ∧ m ≤ hi ∧ (∀ i, j < i → i < m → tF T i < z) ∧ (∀ i, m ≤ i → i < hi → z < tF T i) ∧ T.2.2.2.2 j = nI (cntL T.2.2.2.1 (dp + 1) (m - (j + 1)) (j + 1)))
   ∨ (mk a = 97 ∧ mk (a + 1) = 61 ∧ a + 2 ≤ z ∧ pr nT mk tv sl (pNv nT mk same (tF T) T.2.2.2.2 j) 810 0 dp 0 0 0 (a + 2, false) = ((z, false), T.2.2.2.2 j))
   ∨ (mk a = 97 ∧ mk (a + 1) = 40 ∧ a + 1 ≤ z ∧ pr nT mk tv sl (pNv nT mk same (tF T) T.2.2.2.2 j) 810 2 dp a 0 0 (a + 1, false) = ((z, false), T.2.2.2.2 j)))
def sRes (k k' d : Nat) (T T' : pTr) : Prop := ∀ j, T.1 ≤ j → j < T'.1 → itOk nT mk tv sl same T' T'.1 j ∧ k ≤ tF T' j ∧ tL T' j < k' ∧ ∃ l, T'.2.2.2.1 j = nI l ∧ d ≤ l ∧ l ≤ 12
def sItm (f : Nat) : Prop := ∀ (dp i k : Nat) (T : pTr), dp ≤ 12 → k ≤ nT → 2 * (nT - k) + 1 < f → (pi nT mk tv sl same f 0 dp i (k, false) T).1.1.2 = false → sRes nT mk tv sl same k (pi nT mk tv sl same f 0 dp i (k, false) T).1.1.1 dp T (pi nT mk tv sl same f 0 dp i (k, false) T).1.2 ∧ cntL (pi nT mk tv sl same f 0 dp i (k, false) T).1.2.2.2.2.1 dp ((pi nT mk tv sl same f 0 dp i (k, false) T).1.2.1 - T.1) T.1 = 1
def sBlk (f : Nat) : Prop := ∀ (dp i k : Nat) (T : pTr), dp < 12 → k ≤ nT → 2 * (nT - k) + 2 < f → (pi nT mk tv sl same f 1 dp i (k, false) T).1.1.2 = false → sRes nT mk tv sl same k (pi nT mk tv sl same f 1 dp i (k, false) T).1.1.1 (dp + 1) T (pi nT mk tv sl same f 1 dp i (k, false) T).1.2 ∧ (pi nT mk tv sl same f 1 dp i (k, false) T).2 = i + cntL (pi nT mk tv sl same f 1 dp i (k, false) T).1.2.2.2.2.1 (dp + 1) ((pi nT mk tv sl same f 1 dp i (k, false) T).1.2.1 - T.1) T.1
end
section
variable {nT : Nat} {mk : Nat → Nat} {tv : Nat → Int32} {sl : Nat → Nat} {same : Nat → Nat → Bool} {f : Nat}
theorem itOk_cg (hs : ∀ a z, a < nT → z < nT → mk a = 123 → mk z = 97 → same a z = false) {T T2 : pTr} {hi1 hi2 j : Nat} (hj : j < hi1) (h12 : hi1 ≤ hi2) (hF : ∀ i, i < hi1 → T2.2.1 i = T.2.1 i) (hL : T2.2.2.1 j = T.2.2.1 j) (hV : ∀ i, j ≤ i → i < hi1 → T2.2.2.2.1 i = T.2.2.2.1 i) (hA : T2.2.2.2.2 j = T.2.2.2.2 j) (hA2 : ∀ i, i < j → T2.2.2.2.2 i = T.2.2.2.2 i ∨ (tF T i < nT ∧ mk (tF T i) = 123)) (hnew : ∀ i, hi1 ≤ i → i < hi2 → tL T j < tF T2 i) (hn : nT ≤ 160) (h : itOk nT mk tv sl same T hi1 j) : itOk nT mk tv sl same T2 hi2 j := by
  obtain ⟨a, z, dp, e1, e2, e3, haz, hz, hdp, h⟩ := h
  have htF : ∀ i, i < hi1 → tF T2 i = tF T i := fun i hi => by unfold tF; rw [hF i hi]
  have htL : tL T j = z := by unfold tL; rw [e2]; exact nI_clamp (by omega)
  have hnv : ∀ z', z' < nT → mk z' = 97 → pNv nT mk same (tF T) T.2.2.2.2 j z' = pNv nT mk same (tF T2) T2.2.2.2.2 j z' := fun z' h1 h2 => pNv_cg j (fun i hi => ⟨(htF i (by omega)).symm, (hA2 i hi).elim (fun h => Or.inl h.symm) (fun h => Or.inr (hs _ _ h.1 h1 h.2 h2))⟩)
  refine ⟨a, z, dp, (hF j hj).trans e1, hL.trans e2, (hV j (Nat.le_refl _) hj).trans e3, haz, hz, hdp, ?_⟩
  rcases h with ⟨h1, m, m1, m2, m3, m4, m5⟩ | ⟨h1, h2, h3, h4⟩ | ⟨h1, h2, h3, h4⟩
  · refine Or.inl ⟨h1, m, m1, by omega, fun i i1 i2 => by rw [htF i (by omega)]; exact m3 i i1 i2, fun i i1 i2 => ?_, ?_⟩
    · by_cases hi : i < hi1
      · rw [htF i hi]; exact m4 i i1 hi
      · rw [← htL]; exact hnew i (by omega) i2
    · rw [hA, m5, cntL_cg (V := T2.2.2.2.1) (V' := T.2.2.2.1) _ _ (fun i i1 i2 => hV i (by omega) (by omega))]
  · exact Or.inr (Or.inl ⟨h1, h2, h3, by rw [hA, ← h4]; exact (pr_cg hnv _ _ _ _ _ _ _).symm⟩)
  · exact Or.inr (Or.inr ⟨h1, h2, h3, by rw [hA, ← h4]; exact (pr_cg hnv _ _ _ _ _ _ _).symm⟩)
theorem itOk_tL {T : pTr} {hi j : Nat} (hn : nT ≤ 160) (h : itOk nT mk tv sl same T hi j) : tF T j ≤ tL T j ∧ tL T j < nT := by
  obtain ⟨a, z, dp, e1, e2, e3, haz, hz, -⟩ := h
  unfold tF tL
  rw [e1, e2, nI_clamp (by omega), nI_clamp (by omega)]
  exact ⟨haz, hz⟩
theorem s_blk (hs : ∀ a z, a < nT → z < nT → mk a = 123 → mk z = 97 → same a z = false) (hn : nT ≤ 160) (ihI : sItm nT mk tv sl same f) (ihB : sBlk nT mk tv sl same f) : sBlk nT mk tv sl same (f + 1) := by
  intro dp i k T hdp hk hf hu
  rw [pi_1] at hu ⊢
  by_cases hc : 160 ≤ i ∨ (k, false).2 = true ∨ pS nT mk (k, false) 125 = true
  · rw [if_pos hc]
    refine ⟨fun j j1 j2 => absurd j2 (Nat.not_lt_of_le j1), ?_⟩
    show i = i + cntL T.2.2.2.1 (dp + 1) (T.1 - T.1) T.1
    rw [Nat.sub_self]; rfl
  · rw [if_neg hc] at hu ⊢
    have hu1 : (pi nT mk tv sl same f 0 (dp + 1) 0 (k, false) T).1.1.2 = false := by
      cases hq : (pi nT mk tv sl same f 0 (dp + 1) 0 (k, false) T).1.1.2 with
      | false => rfl
      | true => rw [pi_1s hq] at hu; rw [hq] at hu; cases hu
    have hI := ihI (dp + 1) 0 k T (by omega) hk (by omega) hu1
    have hok := (pi_ok (nT := nT) (mk := mk) (tv := tv) (sl := sl) (same := same) f 0 (dp + 1) 0 (k, false) T)
    have hone : k + 1 ≤ (pi nT mk tv sl same f 0 (dp + 1) 0 (k, false) T).1.1.1 := by
      obtain ⟨g, rfl⟩ : ∃ g, f = g + 1 := ⟨f - 1, by omega⟩
      exact pi_one hu1
    generalize (pi nT mk tv sl same f 0 (dp + 1) 0 (k, false) T).1 = r at hI hok hone hu1 hu ⊢
    obtain ⟨⟨k', u⟩, T'⟩ := r
    obtain rfl : u = false := hu1
    obtain ⟨hI1, hI2⟩ := hI
    have hone : k + 1 ≤ k' := hone
    have hk' : k' ≤ nT := hok.1.2.1 hk
    have hTT : T.1 ≤ T'.1 := hok.2.2
    obtain ⟨hB1, hB2⟩ := ihB dp (i + 1) k' T' hdp hk' (by omega) hu
    have hfr2 := pi_fr (nT := nT) (mk := mk) (tv := tv) (sl := sl) (same := same) f 1 dp (i + 1) (k', false) T'
    have hok2 := (pi_ok (nT := nT) (mk := mk) (tv := tv) (sl := sl) (same := same) f 1 dp (i + 1) (k', false) T')
    have hTT2 := hok2.2.2
    have hkk : k' ≤ (pi nT mk tv sl same f 1 dp (i + 1) (k', false) T').1.1.1 := hok2.1.1
    show sRes nT mk tv sl same k (pi nT mk tv sl same f 1 dp (i + 1) (k', false) T').1.1.1 (dp + 1) T (pi nT mk tv sl same f 1 dp (i + 1) (k', false) T').1.2 ∧ (pi nT mk tv sl same f 1 dp (i + 1) (k', false) T').2 = i + cntL (pi nT mk tv sl same f 1 dp (i + 1) (k', false) T').1.2.2.2.2.1 (dp + 1) ((pi nT mk tv sl same f 1 dp (i + 1) (k', false) T').1.2.1 - T.1) T.1
    generalize pi nT mk tv sl same f 1 dp (i + 1) (k', false) T' = R at hB1 hB2 hfr2 hTT2 hkk ⊢
    obtain ⟨⟨⟨k2, u2⟩, T2⟩, i2⟩ := R
    have hTT2 : T'.1 ≤ T2.1 := hTT2
    have hkk : k' ≤ k2 := hkk
    have hfr2 : tFr T'.1 T' T2 := hfr2
    refine ⟨?_, ?_⟩
    · intro j j1 j2
      have j2 : j < T2.1 := j2
      by_cases hj : j < T'.1
      · obtain ⟨a1, a2, a3, l, a4, a5, a6⟩ := hI1 j j1 hj
        obtain ⟨f1, f2, f3, f4⟩ := hfr2 j hj
        have htF : tF T2 j = tF T' j := by unfold tF; rw [f1]
        have htL : tL T2 j = tL T' j := by unfold tL; rw [f2]
        have a3 : tL T' j < k' := a3
        refine ⟨itOk_cg hs hj hTT2 (fun i hi => (hfr2 i hi).1) f2 (fun i _ hi => (hfr2 i hi).2.2.1) f4 (fun i hi => Or.inl (hfr2 i (by omega)).2.2.2) (fun i i1 i2 => ?_) hn a1, by show k ≤ tF T2 j; rw [htF]; exact a2, by show tL T2 j < k2; rw [htL]; omega, l, f3.trans a4, a5, a6⟩
        have := (hB1 i i1 i2).2.1
        have : k' ≤ tF T2 i := this
        omega
      · obtain ⟨a1, a2, a3, a4⟩ := hB1 j (by show T'.1 ≤ j; omega) j2
        have a2 : k' ≤ tF T2 j := a2
        exact ⟨a1, by show k ≤ tF T2 j; omega, a3, a4⟩
    · have hB2 : i2 = i + 1 + cntL T2.2.2.2.1 (dp + 1) (T2.1 - T'.1) T'.1 := hB2
      have hI2 : cntL T'.2.2.2.1 (dp + 1) (T'.1 - T.1) T.1 = 1 := hI2
      show i2 = i + cntL T2.2.2.2.1 (dp + 1) (T2.1 - T.1) T.1
      have h3 := cntL_add (V := T2.2.2.2.1) (d := dp + 1) (T'.1 - T.1) (T2.1 - T'.1) T.1
      rw [show T'.1 - T.1 + (T2.1 - T'.1) = T2.1 - T.1 by omega, show T.1 + (T'.1 - T.1) = T'.1 by omega] at h3
      rw [h3, cntL_cg (V := T2.2.2.2.1) (V' := T'.2.2.2.1) (T'.1 - T.1) T.1 (fun i i1 i2 => (hfr2 i (by omega)).2.2.1), hI2, hB2]
      omega
theorem s_itm (hs : ∀ a z, a < nT → z < nT → mk a = 123 → mk z = 97 → same a z = false) (hn : nT ≤ 160) (ihB : sBlk nT mk tv sl same f) : sItm nT mk tv sl same (f + 1) := by
  intro dp i k T hdp hk hf hu
  rw [pi] at hu ⊢
  by_cases hc : nT ≤ k ∨ 160 ≤ T.1
  · rw [if_pos hc] at hu; cases hu
  have hkn : k < nT := by omega
  have hT160 : T.1 < 160 := by omega
  rw [if_neg hc] at hu ⊢
  by_cases h123 : mk k = 123
  · have hS : pS nT mk (k, false) 123 = true := by rw [pS_lt hkn]; exact h123
    rw [if_pos hS] at hu ⊢
    by_cases h12 : dp < 12
    · have hOb : pOb nT mk (k, false) 123 dp = true := by unfold pOb; rw [hS]; simp [h12]
      rw [if_pos hOb] at hu ⊢
      have hu : (pN nT mk (pi nT mk tv sl same f 1 dp 0 (k + 1, false) (pBg T k dp)).1.1 125).2 = false := hu
      have hu1 : (pi nT mk tv sl same f 1 dp 0 (k + 1, false) (pBg T k dp)).1.1.2 = false := by
        cases hq : (pi nT mk tv sl same f 1 dp 0 (k + 1, false) (pBg T k dp)).1.1.2 with
        | false => rfl
        | true => rw [(pN_ok (nT := nT) (mk := mk) (pi nT mk tv sl same f 1 dp 0 (k + 1, false) (pBg T k dp)).1.1 125).2.2 hq, hq] at hu; cases hu
      obtain ⟨hB1, hB2⟩ := ihB dp 0 (k + 1) (pBg T k dp) h12 (by omega) (by omega) hu1
      have hok := (pi_ok (nT := nT) (mk := mk) (tv := tv) (sl := sl) (same := same) f 1 dp 0 (k + 1, false) (pBg T k dp))
      have hfr := pi_fr (nT := nT) (mk := mk) (tv := tv) (sl := sl) (same := same) f 1 dp 0 (k + 1, false) (pBg T k dp)
      show sRes nT mk tv sl same k (pN nT mk (pi nT mk tv sl same f 1 dp 0 (k + 1, false) (pBg T k dp)).1.1 125).1 dp T (pLa (pVa (pi nT mk tv sl same f 1 dp 0 (k + 1, false) (pBg T k dp)).1.2 T.1 (nI (pi nT mk tv sl same f 1 dp 0 (k + 1, false) (pBg T k dp)).2)) T.1 (nI (pN nT mk (pi nT mk tv sl same f 1 dp 0 (k + 1, false) (pBg T k dp)).1.1 125).1 - nI 1)) ∧ cntL (pi nT mk tv sl same f 1 dp 0 (k + 1, false) (pBg T k dp)).1.2.2.2.2.1 dp ((pi nT mk tv sl same f 1 dp 0 (k + 1, false) (pBg T k dp)).1.2.1 - T.1) T.1 = 1
      generalize pi nT mk tv sl same f 1 dp 0 (k + 1, false) (pBg T k dp) = R at hB1 hB2 hok hfr hu hu1 ⊢
      obtain ⟨⟨⟨k', u⟩, T'⟩, iv⟩ := R
      obtain rfl : u = false := hu1
      have hTT : T.1 + 1 ≤ T'.1 := hok.2.2
      have hkk : k + 1 ≤ k' := hok.1.1
      have hfr : tFr (T.1 + 1) (pBg T k dp) T' := hfr
      have hS2 : pS nT mk (k', false) 125 = true := by
        cases hq : pS nT mk (k', false) 125 with
        | true => rfl
        | false =>
          have hu : (pN nT mk (k', false) 125).2 = false := hu
          unfold pN at hu; rw [if_neg (by rw [hq]; decide)] at hu; cases hu
      obtain ⟨-, hkn', hc'⟩ := pS_iff.mp hS2
      have hkn' : k' < nT := hkn'
      have hp : pN nT mk (k', false) 125 = (k' + 1, false) := if_pos hS2
      show sRes nT mk tv sl same k (pN nT mk (k', false) 125).1 dp T (pLa (pVa T' T.1 (nI iv)) T.1 (nI (pN nT mk (k', false) 125).1 - nI 1)) ∧ cntL T'.2.2.2.1 dp (T'.1 - T.1) T.1 = 1
      rw [hp]
      have hB2 : iv = 0 + cntL T'.2.2.2.1 (dp + 1) (T'.1 - (T.1 + 1)) (T.1 + 1) := hB2
      have hB1 : ∀ j, T.1 + 1 ≤ j → j < T'.1 → itOk nT mk tv sl same T' T'.1 j ∧ k + 1 ≤ tF T' j ∧ tL T' j < k' ∧ ∃ l, T'.2.2.2.1 j = nI l ∧ dp + 1 ≤ l ∧ l ≤ 12 := hB1
      obtain ⟨f1, f2, f3, f4⟩ := hfr T.1 (Nat.lt_succ_self _)
      have g1 : T'.2.1 T.1 = nI k := by rw [f1]; simp [pBg, upd]
      have g3 : T'.2.2.2.1 T.1 = nI dp := by rw [f3]; simp [pBg, upd]
      have htF0 : tF T' T.1 = k := by unfold tF; rw [g1]; exact nI_clamp (by omega)
      have hcnt : cntL T'.2.2.2.1 dp (T'.1 - T.1) T.1 = 1 := by
        rw [show T'.1 - T.1 = (T'.1 - (T.1 + 1)) + 1 by omega, cntL, if_pos g3, cntL_no _ _ (fun i i1 i2 => ?_)]
        obtain ⟨-, -, -, l, a4, a5, a6⟩ := hB1 i i1 (by omega)
        rw [a4]
        intro hh
        rw [nI_eq (by omega) (by omega)] at hh
        omega
      refine ⟨?_, hcnt⟩
      intro j j1 j2
      have j2 : j < T'.1 := j2
      by_cases hj : j = T.1
      · subst hj
        refine ⟨⟨k, k', dp, g1, ?_, g3, by omega, hkn', hdp, Or.inl ⟨h123, T'.1, by omega, Nat.le_refl _, fun i i1 i2 => ?_, fun i i1 i2 => absurd i2 (Nat.not_lt_of_le i1), ?_⟩⟩, ?_, ?_, dp, g3, Nat.le_refl _, hdp⟩
        · simp [pLa, upd, pk_sub]
        · obtain ⟨a1, a2, a3, -⟩ := hB1 i (by omega) i2
          have := itOk_tL hn a1
          show tF T' i < k'
          omega
        · show upd T'.2.2.2.2 T.1 (nI iv) T.1 = _
          simp only [upd, if_true]
          rw [hB2, Nat.zero_add]
          rfl
        · show k ≤ tF T' T.1; omega
        · have : tL (pLa (pVa T' T.1 (nI iv)) T.1 (nI (k' + 1) - nI 1)) T.1 = k' := by
            unfold tL; simp [pLa, upd, pk_sub]; exact nI_clamp (by omega)
          show tL (pLa (pVa T' T.1 (nI iv)) T.1 (nI (k' + 1) - nI 1)) T.1 < k' + 1
          omega
      · obtain ⟨a1, a2, a3, l, a4, a5, a6⟩ := hB1 j (by omega) j2
        have hL' : (pLa (pVa T' T.1 (nI iv)) T.1 (nI (k' + 1) - nI 1)).2.2.1 j = T'.2.2.1 j := by simp [pLa, pVa, upd, hj]
        refine ⟨itOk_cg (T := T') hs (hi1 := T'.1) j2 (Nat.le_refl _) (fun i hi => rfl) hL' (fun i _ hi => rfl) ?_ (fun i hi => ?_) (fun i i1 i2 => absurd i2 (Nat.not_lt_of_le i1)) hn a1, by show k ≤ tF T' j; omega, ?_, l, a4, by omega, a6⟩
        · simp [pLa, pVa, upd, hj]
        · by_cases hi2 : i = T.1
          · exact Or.inr ⟨by rw [hi2, htF0]; exact hkn, by rw [hi2, htF0]; exact h123⟩
          · exact Or.inl (by simp [pLa, pVa, upd, hi2])
        · show tL (pLa (pVa T' T.1 (nI iv)) T.1 (nI (k' + 1) - nI 1)) j < k' + 1
          have : tL (pLa (pVa T' T.1 (nI iv)) T.1 (nI (k' + 1) - nI 1)) j = tL T' j := by unfold tL; rw [hL']
          omega
    · have hOb : ¬ pOb nT mk (k, false) 123 dp = true := by unfold pOb; simp [h12]
      rw [if_neg hOb] at hu
      have hu : (pOs nT mk (k, false) 123 dp).2 = false := hu
      unfold pOs at hu
      rw [if_pos hS, if_pos (by omega)] at hu
      cases hu
  · have hS : ¬ pS nT mk (k, false) 123 = true := by rw [pS_lt hkn]; exact h123
    rw [if_neg hS] at hu ⊢
    have hu : (pN nT mk (pDef nT mk tv sl same dp (k, false) (pBg T k dp)).1 59).2 = false := hu
    show sRes nT mk tv sl same k (pN nT mk (pDef nT mk tv sl same dp (k, false) (pBg T k dp)).1 59).1 dp T (pLa (pVa (pBg T k dp) T.1 (pDef nT mk tv sl same dp (k, false) (pBg T k dp)).2) T.1 (nI (pN nT mk (pDef nT mk tv sl same dp (k, false) (pBg T k dp)).1 59).1 - nI 1)) ∧ cntL (upd T.2.2.2.1 T.1 (nI dp)) dp (T.1 + 1 - T.1) T.1 = 1
    have hcnt : cntL (upd T.2.2.2.1 T.1 (nI dp)) dp (T.1 + 1 - T.1) T.1 = 1 := by
      rw [show T.1 + 1 - T.1 = 0 + 1 by omega, cntL, cntL, if_pos (by simp [upd])]
    refine ⟨?_, hcnt⟩
    generalize hD : pDef nT mk tv sl same dp (k, false) (pBg T k dp) = D at hu ⊢
    obtain ⟨⟨z, u⟩, v⟩ := D
    have hu : (pN nT mk (z, u) 59).2 = false := hu
    have hu0 : u = false := by
      cases u with
      | false => rfl
      | true => rw [(pN_ok (nT := nT) (mk := mk) (z, true) 59).2.2 rfl] at hu; cases hu
    subst hu0
    have hS2 : pS nT mk (z, false) 59 = true := by
      cases hq : pS nT mk (z, false) 59 with
      | true => rfl
      | false => unfold pN at hu; rw [if_neg (by rw [hq]; decide)] at hu; cases hu
    obtain ⟨-, hzn, hz59⟩ := pS_iff.mp hS2
    have hzn : z < nT := hzn
    have hp : pN nT mk (z, false) 59 = (z + 1, false) := if_pos hS2
    show sRes nT mk tv sl same k (pN nT mk (z, false) 59).1 dp T (pLa (pVa (pBg T k dp) T.1 v) T.1 (nI (pN nT mk (z, false) 59).1 - nI 1))
    rw [hp]
    unfold pDef at hD
    have h97 : mk k = 97 := by
      cases hq : pS nT mk (k, false) 97 with
      | true => rw [pS_lt hkn] at hq; exact hq
      | false =>
        have hn' : pN nT mk (k, false) 97 = (k, true) := if_neg (by rw [hq]; decide)
        rw [hn', if_neg (by rw [pS_stop rfl]; decide)] at hD
        have := (pr_ok (nT := nT) (mk := mk) (tv := tv) (sl := sl) (nv := pNvT nT mk same (pBg T k dp)) 810 2 dp k 0 0 (k, true)).2.2 rfl
        have h2 : (pr nT mk tv sl (pNvT nT mk same (pBg T k dp)) 810 2 dp k 0 0 (k, true)).1 = (z, false) := by rw [show pr nT mk tv sl (pNvT nT mk same (pBg T k dp)) 810 2 dp k 0 0 (k, true) = ((z, false), v) from hD]
        rw [this] at h2
        cases h2
    have hn' : pN nT mk (k, false) 97 = (k + 1, false) := if_pos (by rw [pS_lt hkn]; exact h97)
    rw [hn'] at hD
    have hnv : ∀ z', z' < nT → mk z' = 97 → pNvT nT mk same (pBg T k dp) z' = pNv nT mk same (tF (pLa (pVa (pBg T k dp) T.1 v) T.1 (nI (z + 1) - nI 1))) (pLa (pVa (pBg T k dp) T.1 v) T.1 (nI (z + 1) - nI 1)).2.2.2.2 T.1 z' := fun z' _ _ => by
      refine (show pNvT nT mk same (pBg T k dp) z' = pNv nT mk same (tF (pBg T k dp)) T.2.2.2.2 T.1 z' from rfl).trans (pNv_cg T.1 (fun i hi => ⟨rfl, Or.inl ?_⟩))
      have hi : i ≠ T.1 := by omega
      simp [pLa, pVa, pBg, upd, hi]
    have hva : (pLa (pVa (pBg T k dp) T.1 v) T.1 (nI (z + 1) - nI 1)).2.2.2.2 T.1 = v := by simp [pLa, pVa, pBg, upd]
    intro j j1 j2
    have j2 : j < T.1 + 1 := j2
    obtain rfl : j = T.1 := by omega
    have e1 : (pLa (pVa (pBg T k dp) T.1 v) T.1 (nI (z + 1) - nI 1)).2.1 T.1 = nI k := by simp [pLa, pVa, pBg, upd]
    have e2 : (pLa (pVa (pBg T k dp) T.1 v) T.1 (nI (z + 1) - nI 1)).2.2.1 T.1 = nI z := by simp [pLa, upd, pk_sub]
    have e3 : (pLa (pVa (pBg T k dp) T.1 v) T.1 (nI (z + 1) - nI 1)).2.2.2.1 T.1 = nI dp := by simp [pLa, pVa, pBg, upd]
    have t1 : tF (pLa (pVa (pBg T k dp) T.1 v) T.1 (nI (z + 1) - nI 1)) T.1 = k := by unfold tF; rw [e1]; exact nI_clamp (by omega)
    have t2 : tL (pLa (pVa (pBg T k dp) T.1 v) T.1 (nI (z + 1) - nI 1)) T.1 = z := by unfold tL; rw [e2]; exact nI_clamp (by omega)
    refine ⟨?_, by rw [t1]; exact Nat.le_refl _, by rw [t2]; exact Nat.lt_succ_self _, dp, e3, Nat.le_refl _, hdp⟩
    by_cases h61 : pS nT mk (k + 1, false) 61 = true
    · rw [if_pos h61] at hD
      have hD : pr nT mk tv sl (pNvT nT mk same (pBg T k dp)) 810 0 dp 0 0 0 (k + 2, false) = ((z, false), v) := hD
      have hge := (pr_ok (nT := nT) (mk := mk) (tv := tv) (sl := sl) (nv := pNvT nT mk same (pBg T k dp)) 810 0 dp 0 0 0 (k + 2, false)).1
      rw [hD] at hge
      have hge : k + 2 ≤ z := hge
      refine ⟨k, z, dp, e1, e2, e3, by omega, hzn, hdp, Or.inr (Or.inl ⟨h97, (pS_iff.mp h61).2.2, hge, ?_⟩)⟩
      rw [hva, ← hD]
      exact (pr_cg hnv _ _ _ _ _ _ _).symm
    · rw [if_neg h61] at hD
      have hD : pr nT mk tv sl (pNvT nT mk same (pBg T k dp)) 810 2 dp k 0 0 (k + 1, false) = ((z, false), v) := hD
      have hge := (pr_ok (nT := nT) (mk := mk) (tv := tv) (sl := sl) (nv := pNvT nT mk same (pBg T k dp)) 810 2 dp k 0 0 (k + 1, false)).1
      rw [hD] at hge
      have hge : k + 1 ≤ z := hge
      have h40 : pS nT mk (k + 1, false) 40 = true ∧ dp < 12 := by
        by_cases hq : pS nT mk (k + 1, false) 40 = true ∧ dp < 12
        · exact hq
        · rw [pr, if_neg hq] at hD
          have := congrArg (fun x => x.1.2) hD
          cases this
      refine ⟨k, z, dp, e1, e2, e3, by omega, hzn, hdp, Or.inr (Or.inr ⟨h97, (pS_iff.mp h40.1).2.2, hge, ?_⟩)⟩
      rw [hva, ← hD]
      exact (pr_cg hnv _ _ _ _ _ _ _).symm
variable (nT mk tv sl same) in
theorem si_all (hs : ∀ a z, a < nT → z < nT → mk a = 123 → mk z = 97 → same a z = false) (hn : nT ≤ 160) : ∀ f, sItm nT mk tv sl same f ∧ sBlk nT mk tv sl same f
  | 0 => ⟨fun _ _ _ _ _ _ h => absurd h (by omega), fun _ _ _ _ _ _ h => absurd h (by omega)⟩
  | f + 1 => by
    obtain ⟨h1, h2⟩ := si_all hs hn f
    exact ⟨s_itm hs hn h2, s_blk hs hn h1 h2⟩
theorem s_A (hs : ∀ a z, a < nT → z < nT → mk a = 123 → mk z = 97 → same a z = false) (hn : nT ≤ 160) : ∀ (f i k : Nat) (T : pTr), k ≤ nT → (∀ j, j < T.1 → itOk nT mk tv sl same T T.1 j ∧ tL T j < k) → ∀ j, j < (pA nT mk tv sl same f i (k, false) T).2.1 → itOk nT mk tv sl same (pA nT mk tv sl same f i (k, false) T).2 (pA nT mk tv sl same f i (k, false) T).2.1 j
  | 0, i, k, T, hk, h => by rw [pA]; exact fun j hj => (h j hj).1
  | f + 1, i, k, T, hk, h => by
    rw [pA]
    by_cases hc : 160 ≤ i ∨ nT ≤ k ∨ false = true
    · rw [if_pos hc]; exact fun j hj => (h j hj).1
    · rw [if_neg hc]
      have hI := (si_all nT mk tv sl same hs hn 330).1 0 0 k T (by omega) hk (by omega)
      have hok := (pi_ok (nT := nT) (mk := mk) (tv := tv) (sl := sl) (same := same) 330 0 0 0 (k, false) T)
      have hfr := pi_fr (nT := nT) (mk := mk) (tv := tv) (sl := sl) (same := same) 330 0 0 0 (k, false) T
      generalize (pi nT mk tv sl same 330 0 0 0 (k, false) T).1 = r at hI hok hfr ⊢
      obtain ⟨⟨k', u⟩, T'⟩ := r
      have hTT : T.1 ≤ T'.1 := hok.2.2
      have hfr : tFr T.1 T T' := hfr
      cases u with
      | true =>
        rw [if_pos rfl]
        have hst : ∀ (f i : Nat) (T : pTr), pA nT mk tv sl same f i (k', true) T = ((k', true), T) := by
          intro f i T
          cases f with
          | zero => rw [pA]
          | succ f => rw [pA, if_pos (Or.inr (Or.inr rfl))]
        show ∀ j, j < (pA nT mk tv sl same f (i + 1) (k', true) (T.1, T'.2)).2.1 → itOk nT mk tv sl same (pA nT mk tv sl same f (i + 1) (k', true) (T.1, T'.2)).2 (pA nT mk tv sl same f (i + 1) (k', true) (T.1, T'.2)).2.1 j
        rw [hst]
        intro j hj
        have hj : j < T.1 := hj
        exact itOk_cg hs hj (Nat.le_refl _) (fun i hi => (hfr i hi).1) (hfr j hj).2.1 (fun i _ hi => (hfr i hi).2.2.1) (hfr j hj).2.2.2 (fun i hi => Or.inl (hfr i (by omega)).2.2.2) (fun i i1 i2 => absurd i2 (Nat.not_lt_of_le i1)) hn (h j hj).1
      | false =>
        rw [if_neg (show ¬ false = true by decide)]
        obtain ⟨hI1, -⟩ := hI rfl
        have hkk : k ≤ k' := hok.1.1
        refine s_A hs hn f (i + 1) k' T' (hok.1.2.1 hk) (fun j hj => ?_)
        by_cases hjT : j < T.1
        · obtain ⟨a1, a2⟩ := h j hjT
          have htL : tL T' j = tL T j := by unfold tL; rw [(hfr j hjT).2.1]
          refine ⟨itOk_cg hs hjT hTT (fun i hi => (hfr i hi).1) (hfr j hjT).2.1 (fun i _ hi => (hfr i hi).2.2.1) (hfr j hjT).2.2.2 (fun i hi => Or.inl (hfr i (by omega)).2.2.2) (fun i i1 i2 => ?_) hn a1, by omega⟩
          have := (hI1 i i1 i2).2.1
          have : k ≤ tF T' i := this
          omega
        · obtain ⟨a1, a2, a3, -⟩ := hI1 j (by omega) hj
          exact ⟨a1, a3⟩
end
