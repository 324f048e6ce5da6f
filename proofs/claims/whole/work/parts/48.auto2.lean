/- the automaton and the descent agree: items -/
def gFr (c : Nat) (B B' : aB) : Prop := ∀ j, j < c → B'.2.1 j = B.2.1 j ∧ B'.2.2.1 j = B.2.2.1 j ∧ B'.2.2.2.1 j = B.2.2.2.1 j ∧ B'.2.2.2.2.1 j = B.2.2.2.2.1 j ∧ B'.2.2.2.2.2 j = B.2.2.2.2.2 j
theorem gFr.rf (c : Nat) (B : aB) : gFr c B B := fun _ _ => ⟨rfl, rfl, rfl, rfl, rfl⟩
theorem gFr.tr {c c' : Nat} {B B1 B2 : aB} (h : gFr c B B1) (h' : gFr c' B1 B2) (hc : c ≤ c') : gFr c B B2 := fun j hj => by
  obtain ⟨a1, a2, a3, a4, a5⟩ := h j hj
  obtain ⟨b1, b2, b3, b4, b5⟩ := h' j (by omega)
  exact ⟨b1.trans a1, b2.trans a2, b3.trans a3, b4.trans a4, b5.trans a5⟩
theorem gFr.beg {c : Nat} {B : aB} {k br : Nat} (hc : c ≤ B.1.2.1) : gFr c B (aBeg B k br) := fun j hj => by
  have hj : j ≠ B.1.2.1 := by omega
  simp [aBeg, upd, hj]
theorem gFr.df {c : Nat} {B : aB} (hc : c ≤ B.1.2.2.2) : gFr c B (aDf B) := fun j hj => by
  have hj : j ≠ B.1.2.2.2 := by omega
  simp [aDf, upd, hj]
theorem gFr.fin {c l i k : Nat} {B : aB} (hc : c ≤ i) : gFr c B (aFin B l i k) := fun j hj => by
  have hj : j ≠ i := by omega
  simp [aFin, upd, hj]
theorem gFr.bl (c : Nat) (B : aB) (bl : List Nat) : gFr c B (aBl B bl) := fun _ _ => ⟨rfl, rfl, rfl, rfl, rfl⟩
def tF (T : pTr) (j : Nat) : Nat := (T.2.1 j).toNatClampNeg
def tL (T : pTr) (j : Nat) : Nat := (T.2.2.1 j).toNatClampNeg
/-- the items of the reference are those of the class -/
def gEq (mk : Nat → Nat) (T : pTr) (B : aB) (lo hi : Nat) : Prop := ∀ j, lo ≤ j → j < hi → B.2.1 j = T.2.1 j ∧ B.2.2.1 j = T.2.2.1 j ∧ B.2.2.2.1 j = T.2.2.2.1 j ∧ B.2.2.2.2.1 j = nI (decide (mk (tF T j) = 123)).toNat ∧ B.2.2.2.2.2 j = nI (decide (mk (tF T j) ≠ 123 ∧ mk (tF T j + 1) = 61)).toNat
theorem gEq.cg {mk : Nat → Nat} {T T' : pTr} {B B' : aB} {lo hi : Nat} (h : gEq mk T B lo hi) (hT : tFr hi T T') (hB : gFr hi B B') : gEq mk T' B' lo hi := fun j h1 h2 => by
  obtain ⟨a1, a2, a3, a4, a5⟩ := h j h1 h2
  obtain ⟨b1, b2, b3, b4, b5⟩ := hB j h2
  obtain ⟨c1, c2, c3, c4⟩ := hT j h2
  unfold tF at *
  rw [b1, b2, b3, b4, b5, a1, a2, a3, a4, a5, c1, c2, c3]
  exact ⟨rfl, rfl, rfl, rfl, rfl⟩
theorem all1_wh {o : List Nat} (h : ∀ x ∈ o, x = 1) : aWh o = o ∧ aIn o = false ∧ (o ≠ [] → aTop o = 1) := by
  cases o with
  | nil => exact ⟨rfl, rfl, fun h => absurd rfl h⟩
  | cons x o =>
    have : x = 1 := h x (by simp)
    subst this
    exact ⟨rfl, rfl, fun _ => rfl⟩
section
variable (nT : Nat) (mk : Nat → Nat) (tv : Nat → Int32) (sl : Nat → Nat) (same : Nat → Nat → Bool)
def gItm (f : Nat) : Prop := ∀ (dp i k : Nat) (T : pTr) (o : List Nat) (B : aB), o.length = dp → (∀ x ∈ o, x = 1) → B.1.1.length = dp → dp ≤ 12 → k ≤ nT → T.1 = B.1.2.1 → T.1 ≤ k → (k < nT ∨ o ≠ []) → (k < nT → o ≠ [] → mk k ≠ 125) → 2 * (nT - k) + 1 < f →
  ((pi nT mk tv sl same f 0 dp i (k, false) T).1.1.2 = true → ∃ B', gR nT mk k (0, o) B = ((pi nT mk tv sl same f 0 dp i (k, false) T).1.1.1, false, B') ∧ B'.1.2.2.1 = B.1.2.2.1 ∧ gFr T.1 B B') ∧
  ((pi nT mk tv sl same f 0 dp i (k, false) T).1.1.2 = false → ∃ B', gR nT mk k (0, o) B = gR nT mk (pi nT mk tv sl same f 0 dp i (k, false) T).1.1.1 (0, o) B' ∧ B'.1.1 = B.1.1 ∧ (pi nT mk tv sl same f 0 dp i (k, false) T).1.2.1 = B'.1.2.1 ∧ B'.1.2.2.1 = (if dp = 0 then B'.1.2.1 else B.1.2.2.1) ∧ gFr T.1 B B' ∧ gEq mk (pi nT mk tv sl same f 0 dp i (k, false) T).1.2 B' T.1 (pi nT mk tv sl same f 0 dp i (k, false) T).1.2.1 ∧ (pi nT mk tv sl same f 0 dp i (k, false) T).1.2.1 ≤ (pi nT mk tv sl same f 0 dp i (k, false) T).1.1.1 ∧ T.1 < (pi nT mk tv sl same f 0 dp i (k, false) T).1.2.1)
def gBlk (f : Nat) : Prop := ∀ (dp i k : Nat) (T : pTr) (o : List Nat) (B : aB), o.length = dp → (∀ x ∈ o, x = 1) → B.1.1.length = dp + 1 → dp < 12 → k ≤ nT → T.1 = B.1.2.1 → T.1 ≤ k → i ≤ k → 2 * (nT - k) + 2 < f →
  ((pi nT mk tv sl same f 1 dp i (k, false) T).1.1.2 = true → ∃ B', gR nT mk k (0, 1 :: o) B = ((pi nT mk tv sl same f 1 dp i (k, false) T).1.1.1, false, B') ∧ B'.1.2.2.1 = B.1.2.2.1 ∧ gFr T.1 B B') ∧
  ((pi nT mk tv sl same f 1 dp i (k, false) T).1.1.2 = false → ((pi nT mk tv sl same f 1 dp i (k, false) T).1.1.1 = nT ∨ mk (pi nT mk tv sl same f 1 dp i (k, false) T).1.1.1 = 125) ∧ ∃ B', gR nT mk k (0, 1 :: o) B = gR nT mk (pi nT mk tv sl same f 1 dp i (k, false) T).1.1.1 (0, 1 :: o) B' ∧ B'.1.1 = B.1.1 ∧ (pi nT mk tv sl same f 1 dp i (k, false) T).1.2.1 = B'.1.2.1 ∧ B'.1.2.2.1 = B.1.2.2.1 ∧ gFr T.1 B B' ∧ gEq mk (pi nT mk tv sl same f 1 dp i (k, false) T).1.2 B' T.1 (pi nT mk tv sl same f 1 dp i (k, false) T).1.2.1 ∧ (pi nT mk tv sl same f 1 dp i (k, false) T).1.2.1 ≤ (pi nT mk tv sl same f 1 dp i (k, false) T).1.1.1 ∧ T.1 ≤ (pi nT mk tv sl same f 1 dp i (k, false) T).1.2.1)
end
section
variable {nT : Nat} {mk : Nat → Nat} {tv : Nat → Int32} {sl : Nat → Nat} {same : Nat → Nat → Bool} {f : Nat}
theorem pi_1 {dp i : Nat} {s : pE} {T : pTr} : pi nT mk tv sl same (f + 1) 1 dp i s T = if 160 ≤ i ∨ s.2 = true ∨ pS nT mk s 125 = true then ((s, T), i) else pi nT mk tv sl same f 1 dp (i + 1) (pi nT mk tv sl same f 0 (dp + 1) 0 s T).1.1 (pi nT mk tv sl same f 0 (dp + 1) 0 s T).1.2 := by
  rw [pi]
  all_goals omega
theorem pi_1s {dp i : Nat} {s : pE} {T : pTr} (h : s.2 = true) : pi nT mk tv sl same f 1 dp i s T = ((s, T), i) := by
  cases f with
  | zero => rw [pi]
  | succ f => rw [pi_1, if_pos (Or.inr (Or.inl h))]
theorem g_blk (hnT : nT ≤ 160) (ihI : gItm nT mk tv sl same f) (ihB : gBlk nT mk tv sl same f) : gBlk nT mk tv sl same (f + 1) := by
  intro dp i k T o B ho h1 hbl hdp hk hT hTk hik hf
  rw [pi_1]
  by_cases hkn : k < nT
  · by_cases h125 : mk k = 125
    · rw [if_pos (Or.inr (Or.inr (by rw [pS_lt hkn]; exact h125)))]
      exact ⟨(fun h => by cases h), fun _ => ⟨Or.inr h125, B, rfl, rfl, hT, rfl, gFr.rf _ _, fun j a b => absurd b (Nat.not_lt_of_le a), hTk, Nat.le_refl _⟩⟩
    · rw [if_neg (by
        rintro (h | h | h)
        · omega
        · cases h
        · rw [pS_lt hkn] at h; exact h125 h)]
      have hI := ihI (dp + 1) 0 k T (1 :: o) B (by simp [ho]) (by simpa using h1) hbl (by omega) hk hT hTk (Or.inl hkn) (fun _ _ => h125) (by omega)
      have hok := (pi_ok (nT := nT) (mk := mk) (tv := tv) (sl := sl) (same := same) f 0 (dp + 1) 0 (k, false) T)
      have hfr := pi_fr (nT := nT) (mk := mk) (tv := tv) (sl := sl) (same := same) f 0 (dp + 1) 0 (k, false) T
      have hone : (pi nT mk tv sl same f 0 (dp + 1) 0 (k, false) T).1.1.2 = false → k + 1 ≤ (pi nT mk tv sl same f 0 (dp + 1) 0 (k, false) T).1.1.1 := fun h => by
        obtain ⟨g, rfl⟩ : ∃ g, f = g + 1 := ⟨f - 1, by omega⟩
        exact pi_one h
      generalize (pi nT mk tv sl same f 0 (dp + 1) 0 (k, false) T).1 = r at hI hok hfr hone ⊢
      obtain ⟨⟨k', u⟩, T'⟩ := r
      cases u with
      | true =>
        rw [pi_1s rfl]
        obtain ⟨B', e1, e2, e3⟩ := hI.1 rfl
        exact ⟨fun _ => ⟨B', e1, e2, e3⟩, fun h => by cases h⟩
      | false =>
        obtain ⟨B', e1, e2, e3, e4, e5, e6, e7, e8⟩ := hI.2 rfl
        have hk' : k' ≤ nT := hok.1.2.1 hk
        have hone : k + 1 ≤ k' := hone rfl
        have e7 : T'.1 ≤ k' := e7
        have e8 : T.1 < T'.1 := e8
        have e4 : B'.1.2.2.1 = B.1.2.2.1 := e4
        have hB := ihB dp (i + 1) k' T' o B' ho h1 (by rw [e2]; exact hbl) hdp hk' e3 e7 (by omega) (by omega)
        have hfr2 := pi_fr (nT := nT) (mk := mk) (tv := tv) (sl := sl) (same := same) f 1 dp (i + 1) (k', false) T'
        refine ⟨fun h => ?_, fun h => ?_⟩
        · obtain ⟨B2, g1, g2, g3⟩ := hB.1 h
          exact ⟨B2, e1.trans g1, g2.trans e4, e5.tr g3 (by omega)⟩
        · obtain ⟨g0, B2, g1, g2, g3, g4, g5, g6, g7, g8⟩ := hB.2 h
          refine ⟨g0, B2, e1.trans g1, g2.trans e2, g3, g4.trans e4, e5.tr g5 (by omega), ?_, g7, Nat.le_trans (Nat.le_of_lt e8) g8⟩
          intro j j1 j2
          by_cases hj : j < T'.1
          · exact (e6.cg (hi := T'.1) hfr2 g5) j j1 hj
          · exact g6 j (by omega) j2
  · have hkn : k = nT := by omega
    by_cases h160 : 160 ≤ i
    · rw [if_pos (Or.inl h160)]
      exact ⟨(fun h => by cases h), fun _ => ⟨Or.inl hkn, B, rfl, rfl, hT, rfl, gFr.rf _ _, fun j a b => absurd b (Nat.not_lt_of_le a), hTk, Nat.le_refl _⟩⟩
    · rw [if_neg (by
        rintro (h | h | h)
        · omega
        · cases h
        · rw [pS_ge hkn] at h; cases h)]
      obtain ⟨g, rfl⟩ : ∃ g, f = g + 1 := ⟨f - 1, by omega⟩
      have hst : (pi nT mk tv sl same (g + 1) 0 (dp + 1) 0 (k, false) T).1 = ((k, true), T) := by
        rw [pi, if_pos (Or.inl (by show nT ≤ k; omega))]
      rw [hst, pi_1s rfl]
      exact ⟨fun _ => ⟨B, gR_e hkn (Or.inr (by simp)), rfl, gFr.rf _ _⟩, fun h => by cases h⟩
theorem tcn {k : Nat} (h : k < 2 ^ 31) : (nI k).toNatClampNeg = k := nI_clamp h
theorem g_itm (hnT : nT ≤ 160) (ihB : gBlk nT mk tv sl same f) : gItm nT mk tv sl same (f + 1) := by
  intro dp i k T o B ho h1 hbl hdp hk hT hTk hko h125 hf
  obtain ⟨hw, hin, htop⟩ := all1_wh h1
  rw [pi]
  by_cases hkn : k < nT
  · rw [if_neg (by show ¬ (nT ≤ k ∨ 160 ≤ T.1); omega)]
    by_cases h123 : mk k = 123
    · have hs : pS nT mk (k, false) 123 = true := by rw [pS_lt hkn]; exact h123
      rw [if_pos hs]
      by_cases h12 : dp < 12
      · rw [if_pos (by unfold pOb; rw [hs]; simp [h12])]
        have hst : gR nT mk k (0, o) B = gR nT mk (k + 1) (0, 1 :: o) (aBl (aBeg B k 1) (B.1.2.1 :: B.1.1)) := gR_s (x := ((0, 1 :: o), aBl (aBeg B k 1) (B.1.2.1 :: B.1.1))) hkn (by rw [aTok_0]; simp [aItem, h123, show ¬ o.length = 12 by omega])
        have hB := ihB dp 0 (k + 1) (pBg T k dp) o (aBl (aBeg B k 1) (B.1.2.1 :: B.1.1)) ho h1 (by show (B.1.2.1 :: B.1.1).length = _; simp [hbl]) h12 (by omega) (by show T.1 + 1 = B.1.2.1 + 1; omega) (by show T.1 + 1 ≤ k + 1; omega) (by omega) (by omega)
        have hok := (pi_ok (nT := nT) (mk := mk) (tv := tv) (sl := sl) (same := same) f 1 dp 0 (k + 1, false) (pBg T k dp))
        have hfr := pi_fr (nT := nT) (mk := mk) (tv := tv) (sl := sl) (same := same) f 1 dp 0 (k + 1, false) (pBg T k dp)
        have hb0 : gFr T.1 B (aBl (aBeg B k 1) (B.1.2.1 :: B.1.1)) := (gFr.beg (by omega)).tr (gFr.bl T.1 _ _) (Nat.le_refl _)
        show ((pN nT mk (pi nT mk tv sl same f 1 dp 0 (k + 1, false) (pBg T k dp)).1.1 125).2 = true → _) ∧ ((pN nT mk (pi nT mk tv sl same f 1 dp 0 (k + 1, false) (pBg T k dp)).1.1 125).2 = false → _)
        generalize (pi nT mk tv sl same f 1 dp 0 (k + 1, false) (pBg T k dp)) = R at hB hok hfr ⊢
        obtain ⟨⟨⟨k', u⟩, T'⟩, iv⟩ := R
        have e0 : T.1 + 1 ≤ T'.1 := hok.2.2
        cases u with
        | true =>
          obtain ⟨B', e1, e2, e3⟩ := hB.1 rfl
          have hp : pN nT mk (k', true) 125 = (k', true) := (pN_ok (nT := nT) (mk := mk) (k', true) 125).2.2 rfl
          refine ⟨fun _ => ⟨B', ?_, e2, hb0.tr e3 (Nat.le_succ _)⟩, fun h => ?_⟩
          · show _ = ((pN nT mk (k', true) 125).1, false, B'); rw [hp]; exact hst.trans e1
          · have h : (pN nT mk (k', true) 125).2 = false := h
            rw [hp] at h; cases h
        | false =>
          obtain ⟨g0, B', e1, e2, e3, e4, e5, e6, e7, e8⟩ := hB.2 rfl
          have hk' : k' ≤ nT := hok.1.2.1 (show k + 1 ≤ nT by omega)
          have hkk : k + 1 ≤ k' := hok.1.1
          have g0 : k' = nT ∨ mk k' = 125 := g0
          by_cases hkn' : k' < nT
          · have hc : mk k' = 125 := by omega
            have hp : pN nT mk (k', false) 125 = (k' + 1, false) := if_pos (by rw [pS_lt hkn']; exact hc)
            refine ⟨fun h => ?_, fun _ => ?_⟩
            · have h : (pN nT mk (k', false) 125).2 = true := h
              rw [hp] at h; cases h
            · have e2 : B'.1.1 = B.1.2.1 :: B.1.1 := e2
              have e3 : T'.1 = B'.1.2.1 := e3
              have e4 : B'.1.2.2.1 = B.1.2.2.1 := e4
              have e7 : T'.1 ≤ k' := e7
              have e5 : gFr (T.1 + 1) (aBl (aBeg B k 1) (B.1.2.1 :: B.1.1)) B' := e5
              have hst2 : gR nT mk k' (0, 1 :: o) B' = gR nT mk (k' + 1) (0, o) (aFin (aBl B' B.1.1) o.length T.1 k') := gR_s (x := ((0, o), aFin (aBl B' B.1.1) o.length T.1 k')) hkn' (by rw [aTok_0]; simp [aItem, hc, aTop, e2, hT])
              refine ⟨aFin (aBl B' B.1.1) o.length T.1 k', ?_, rfl, e3, ?_, ?_, ?_, ?_, ?_⟩
              · show _ = gR nT mk (pN nT mk (k', false) 125).1 (0, o) _
                rw [hp]; exact hst.trans (e1.trans hst2)
              · show (if o.length = 0 then B'.1.2.1 else B'.1.2.2.1) = if dp = 0 then B'.1.2.1 else B.1.2.2.1
                rw [ho, e4]
              · exact ((hb0.tr e5 (Nat.le_succ _)).tr (gFr.bl T.1 _ _) (Nat.le_refl _)).tr (gFr.fin (c := T.1) (Nat.le_refl _)) (Nat.le_refl _)
              · intro j j1 j2
                have j2 : j < T'.1 := j2
                by_cases hj : j = T.1
                · subst hj
                  have a1 := hfr T.1 (Nat.lt_succ_self _)
                  have a2 := e5 T.1 (Nat.lt_succ_self _)
                  have hF : T'.2.1 T.1 = nI k := by rw [a1.1]; simp [pBg, upd]
                  have hV : T'.2.2.2.1 T.1 = nI dp := by rw [a1.2.2.1]; simp [pBg, upd]
                  have hB1 : B'.2.1 T.1 = nI k := by rw [a2.1]; simp [aBl, aBeg, upd, hT]
                  have hB3 : B'.2.2.2.1 T.1 = nI dp := by rw [a2.2.2.1]; simp [aBl, aBeg, upd, hT, hbl]
                  have hB4 : B'.2.2.2.2.1 T.1 = nI 1 := by rw [a2.2.2.2.1]; simp [aBl, aBeg, upd, hT]
                  have hB5 : B'.2.2.2.2.2 T.1 = nI 0 := by rw [a2.2.2.2.2]; simp [aBl, aBeg, upd, hT]
                  have htF : tF (pLa (pVa T' T.1 (nI iv)) T.1 (nI (pN nT mk (k', false) 125).1 - nI 1)) T.1 = k := by
                    unfold tF; show (T'.2.1 T.1).toNatClampNeg = k; rw [hF]; exact tcn (by omega)
                  refine ⟨hB1.trans hF.symm, ?_, hB3.trans hV.symm, ?_, ?_⟩
                  · show (aFin (aBl B' B.1.1) o.length T.1 k').2.2.1 T.1 = (pLa (pVa T' T.1 (nI iv)) T.1 (nI (pN nT mk (k', false) 125).1 - nI 1)).2.2.1 T.1
                    rw [hp]
                    simp [aFin, pLa, upd, pk_sub]
                  · show B'.2.2.2.2.1 T.1 = _
                    rw [hB4]
                    show _ = nI (decide (mk (tF (pLa (pVa T' T.1 (nI iv)) T.1 (nI (pN nT mk (k', false) 125).1 - nI 1)) T.1) = 123)).toNat
                    rw [htF]; simp [h123]
                  · show B'.2.2.2.2.2 T.1 = _
                    rw [hB5]
                    show _ = nI (decide (mk (tF (pLa (pVa T' T.1 (nI iv)) T.1 (nI (pN nT mk (k', false) 125).1 - nI 1)) T.1) ≠ 123 ∧ _)).toNat
                    rw [htF]; simp [h123]
                · have a := e6 j (show T.1 + 1 ≤ j by omega) j2
                  obtain ⟨b1, b2, b3, b4, b5⟩ := a
                  refine ⟨b1, ?_, b3, b4, b5⟩
                  show upd B'.2.2.1 T.1 (nI k') j = upd T'.2.2.1 T.1 _ j
                  simp only [upd, if_neg hj]
                  exact b2
              · show T'.1 ≤ (pN nT mk (k', false) 125).1
                rw [hp]; show T'.1 ≤ k' + 1; omega
              · show T.1 < T'.1; omega
          · have hkn' : k' = nT := by omega
            have hp : pN nT mk (k', false) 125 = (k', true) := if_neg (by rw [pS_ge hkn']; decide)
            refine ⟨fun _ => ⟨B', ?_, e4, hb0.tr e5 (Nat.le_succ _)⟩, fun h => ?_⟩
            · show _ = ((pN nT mk (k', false) 125).1, false, B'); rw [hp]
              exact hst.trans (e1.trans (gR_e hkn' (Or.inr (by simp))))
            · have h : (pN nT mk (k', false) 125).2 = false := h
              rw [hp] at h; cases h
      · rw [if_neg (by unfold pOb; simp [h12])]
        have hp : pOs nT mk (k, false) 123 dp = (k, true) := by unfold pOs; rw [if_pos hs, if_pos (by omega)]
        refine ⟨fun _ => ⟨B, ?_, rfl, gFr.rf _ _⟩, fun h => ?_⟩
        · show _ = ((pOs nT mk (k, false) 123 dp).1, false, B)
          rw [hp]
          exact gR_n hkn (by rw [aTok_0]; simp [aItem, h123, show o.length = 12 by omega])
        · have h : (pOs nT mk (k, false) 123 dp).2 = false := h
          rw [hp] at h; cases h
    · rw [if_neg (by rw [pS_lt hkn]; exact h123)]
      by_cases h97 : mk k = 97
      · have hn : pN nT mk (k, false) 97 = (k + 1, false) := if_pos (by rw [pS_lt hkn]; exact h97)
        have hst : gR nT mk k (0, o) B = gR nT mk (k + 1) (1, o) (aBeg B k 0) := gR_s (x := ((1, o), aBeg B k 0)) hkn (by rw [aTok_0]; simp [aItem, h97])
        have hb0 : gFr T.1 B (aBeg B k 0) := gFr.beg (by omega)
        have fin : ∀ (B1 : aB) (r : pE) (v : Int32) (qs : Nat), B1.1.1 = B.1.1 → B1.1.2.1 = B.1.2.1 + 1 → B1.1.2.2.1 = B.1.2.2.1 → B1.1.2.2.2 = B.1.2.1 → gFr T.1 B B1 → B1.2.1 T.1 = nI k → B1.2.2.2.1 T.1 = nI dp → B1.2.2.2.2.1 T.1 = nI 0 → B1.2.2.2.2.2 T.1 = nI (decide (mk k ≠ 123 ∧ mk (k + 1) = 61)).toNat → gR nT mk k (0, o) B = gP nT mk B1 r (qs, o) → r.1 ≤ nT → k + 1 ≤ r.1 → qs ≠ 0 → (r.2 = false → r.1 < nT → aTok (mk r.1) r.1 (qs, o) B1 = if mk r.1 = 59 then some ((0, o), aFin B1 o.length B1.1.2.2.2 r.1) else none) →
          ((pN nT mk r 59).2 = true → ∃ B', gR nT mk k (0, o) B = ((pN nT mk r 59).1, false, B') ∧ B'.1.2.2.1 = B.1.2.2.1 ∧ gFr T.1 B B') ∧
          ((pN nT mk r 59).2 = false → ∃ B', gR nT mk k (0, o) B = gR nT mk (pN nT mk r 59).1 (0, o) B' ∧ B'.1.1 = B.1.1 ∧ T.1 + 1 = B'.1.2.1 ∧ B'.1.2.2.1 = (if dp = 0 then B'.1.2.1 else B.1.2.2.1) ∧ gFr T.1 B B' ∧ gEq mk (pLa (pVa (pBg T k dp) T.1 v) T.1 (nI (pN nT mk r 59).1 - nI 1)) B' T.1 (T.1 + 1) ∧ T.1 + 1 ≤ (pN nT mk r 59).1 ∧ T.1 < T.1 + 1) := by
          intro B1 r v qs b1 b2 b3 b4 b5 b6 b7 b8 b9 hg hr1 hr2 hqs htk
          obtain ⟨k', u⟩ := r
          have hr1 : k' ≤ nT := hr1
          have hr2 : k + 1 ≤ k' := hr2
          cases u with
          | true =>
            have hp : pN nT mk (k', true) 59 = (k', true) := (pN_ok (nT := nT) (mk := mk) (k', true) 59).2.2 rfl
            rw [hp]
            exact ⟨fun _ => ⟨B1, hg, b3, b5⟩, fun h => by cases h⟩
          | false =>
            rw [gP_f rfl] at hg
            by_cases hkn' : k' < nT
            · have htk := htk rfl hkn'
              have htk : aTok (mk k') k' (qs, o) B1 = if mk k' = 59 then some ((0, o), aFin B1 o.length B1.1.2.2.2 k') else none := htk
              by_cases h59 : mk k' = 59
              · have hp : pN nT mk (k', false) 59 = (k' + 1, false) := if_pos (by rw [pS_lt hkn']; exact h59)
                rw [hp]
                refine ⟨(fun h => by cases h), fun _ => ⟨aFin B1 o.length B1.1.2.2.2 k', hg.trans (gR_s (x := ((0, o), aFin B1 o.length B1.1.2.2.2 k')) hkn' (by rw [htk, if_pos h59])), b1, ?_, ?_, ?_, ?_, ?_, Nat.lt_succ_self _⟩⟩
                · show T.1 + 1 = B1.1.2.1; omega
                · show (if o.length = 0 then B1.1.2.1 else B1.1.2.2.1) = if dp = 0 then B1.1.2.1 else B.1.2.2.1
                  rw [ho, b3]
                · exact b5.tr (gFr.fin (c := T.1) (by omega)) (Nat.le_refl _)
                · intro j j1 j2
                  obtain rfl : j = T.1 := by omega
                  have htF : tF (pLa (pVa (pBg T k dp) T.1 v) T.1 (nI (k' + 1) - nI 1)) T.1 = k := by
                    unfold tF; simp [pLa, pVa, pBg, upd]; exact tcn (by omega)
                  refine ⟨?_, ?_, ?_, ?_, ?_⟩
                  · show B1.2.1 T.1 = _; rw [b6]; simp [pLa, pVa, pBg, upd]
                  · rw [b4, ← hT]; simp [aFin, pLa, upd, pk_sub]
                  · show B1.2.2.2.1 T.1 = _; rw [b7]; simp [pLa, pVa, pBg, upd]
                  · show B1.2.2.2.2.1 T.1 = _; rw [b8]
                    show _ = nI (decide (mk (tF (pLa (pVa (pBg T k dp) T.1 v) T.1 (nI (k' + 1) - nI 1)) T.1) = 123)).toNat
                    rw [htF]; simp [h123]
                  · show B1.2.2.2.2.2 T.1 = _; rw [b9]
                    show _ = nI (decide (mk (tF (pLa (pVa (pBg T k dp) T.1 v) T.1 (nI (k' + 1) - nI 1)) T.1) ≠ 123 ∧ mk (tF (pLa (pVa (pBg T k dp) T.1 v) T.1 (nI (k' + 1) - nI 1)) T.1 + 1) = 61)).toNat
                    rw [htF]
                · show T.1 + 1 ≤ k' + 1; omega
              · have hp : pN nT mk (k', false) 59 = (k', true) := if_neg (by rw [pS_lt hkn']; exact h59)
                rw [hp]
                exact ⟨fun _ => ⟨B1, hg.trans (gR_n hkn' (by rw [htk, if_neg h59])), b3, b5⟩, fun h => by cases h⟩
            · have hkn' : k' = nT := by omega
              have hp : pN nT mk (k', false) 59 = (k', true) := if_neg (by rw [pS_ge hkn']; decide)
              rw [hp]
              exact ⟨fun _ => ⟨B1, hg.trans (gR_e hkn' (Or.inl hqs)), b3, b5⟩, fun h => by cases h⟩
        have hgoal : ∀ (D : pE × Int32), pDef nT mk tv sl same dp (k, false) (pBg T k dp) = D → ((pN nT mk D.1 59).2 = true → ∃ B', gR nT mk k (0, o) B = ((pN nT mk D.1 59).1, false, B') ∧ B'.1.2.2.1 = B.1.2.2.1 ∧ gFr T.1 B B') ∧
          ((pN nT mk D.1 59).2 = false → ∃ B', gR nT mk k (0, o) B = gR nT mk (pN nT mk D.1 59).1 (0, o) B' ∧ B'.1.1 = B.1.1 ∧ T.1 + 1 = B'.1.2.1 ∧ B'.1.2.2.1 = (if dp = 0 then B'.1.2.1 else B.1.2.2.1) ∧ gFr T.1 B B' ∧ gEq mk (pLa (pVa (pBg T k dp) T.1 D.2) T.1 (nI (pN nT mk D.1 59).1 - nI 1)) B' T.1 (T.1 + 1) ∧ T.1 + 1 ≤ (pN nT mk D.1 59).1 ∧ T.1 < T.1 + 1) := by
          intro D hD
          unfold pDef at hD
          rw [hn] at hD
          by_cases h61 : pS nT mk (k + 1, false) 61 = true
          · rw [if_pos h61] at hD
            obtain ⟨-, q1, q2⟩ := pS_iff.mp h61
            have q1 : k + 1 < nT := q1
            have q2 : mk (k + 1) = 61 := q2
            have hst2 : gR nT mk (k + 1) (1, o) (aBeg B k 0) = gR nT mk (k + 2) (2, o) (aDf (aBeg B k 0)) := gR_s (x := ((2, o), aDf (aBeg B k 0))) q1 (by rw [aTok_1]; simp [aNam, q2])
            obtain ⟨s1, s2⟩ := (g_all nT mk tv sl (pNvT nT mk same (pBg T k dp)) 810).2.1 dp o (aDf (aBeg B k 0)) (k + 2) hw ho hdp (by omega) (by omega)
            have hok := pr_ok (nT := nT) (mk := mk) (tv := tv) (sl := sl) (nv := pNvT nT mk same (pBg T k dp)) 810 0 dp 0 0 0 (k + 2, false)
            have hD : pr nT mk tv sl (pNvT nT mk same (pBg T k dp)) 810 0 dp 0 0 0 (k + 2, false) = D := hD
            rw [hD] at s1 s2 hok
            refine fin (aDf (aBeg B k 0)) D.1 D.2 5 rfl rfl rfl rfl (hb0.tr (gFr.df (c := T.1) (by show T.1 ≤ B.1.2.1; omega)) (Nat.le_refl _)) ?_ ?_ ?_ ?_ (hst.trans (hst2.trans s1)) (hok.2.1 (show k + 2 ≤ nT by omega)) (by have : k + 2 ≤ D.1.1 := hok.1; omega) (by decide) ?_
            · simp [aDf, aBeg, upd, hT]
            · simp [aDf, aBeg, upd, hT, hbl]
            · simp [aDf, aBeg, upd, hT]
            · simp [aDf, aBeg, upd, hT, h123, q2]
            · intro hu hlt
              have := s2 hu hlt
              rw [aTok_5]
              unfold aBeh
              rw [if_neg (by rintro (h | h | h | h); exact this.2.1 h; exact this.2.2 h; exact this.1 h; (have h := h.2.1; rw [hin] at h; cases h)), if_neg (fun h => by have h := h.2; rw [hin] at h; cases h)]
              by_cases h59 : mk D.1.1 = 59
              · rw [if_pos ⟨h59, hin⟩, if_pos h59]
              · rw [if_neg (fun h => h59 h.1), if_neg h59]
          · rw [if_neg h61] at hD
            have hD : pr nT mk tv sl (pNvT nT mk same (pBg T k dp)) 810 2 dp k 0 0 (k + 1, false) = D := hD
            by_cases h40 : pS nT mk (k + 1, false) 40 = true ∧ dp < 12
            · obtain ⟨-, q1, q2⟩ := pS_iff.mp h40.1
              have q1 : k + 1 < nT := q1
              have q2 : mk (k + 1) = 40 := q2
              have hst2 : gR nT mk (k + 1) (1, o) (aBeg B k 0) = gR nT mk (k + 2) (3, 5 :: o) (aBeg B k 0) := gR_s (x := ((3, 5 :: o), aBeg B k 0)) q1 (by rw [aTok_1]; simp [aNam, q2, show ¬ o.length = 12 by omega])
              have s1 := (g_all nT mk tv sl (pNvT nT mk same (pBg T k dp)) 810).2.2.2.1 5 dp k o (aBeg B k 0) (k + 1) (Or.inr rfl) ho h40.2 q1 q2 (by omega)
              have hok := pr_ok (nT := nT) (mk := mk) (tv := tv) (sl := sl) (nv := pNvT nT mk same (pBg T k dp)) 810 2 dp k 0 0 (k + 1, false)
              rw [hD] at s1 hok
              refine fin (aBeg B k 0) D.1 D.2 6 rfl rfl rfl rfl hb0 ?_ ?_ ?_ ?_ (hst.trans (hst2.trans s1)) (hok.2.1 (show k + 1 ≤ nT by omega)) hok.1 (by decide) ?_
              · simp [aBeg, upd, hT]
              · simp [aBeg, upd, hT, hbl]
              · simp [aBeg, upd, hT]
              · simp [aBeg, upd, hT, q2]
              · intro hu hlt
                rw [aTok_6]
            · have hD2 : D = ((k + 1, true), nI 0) := by rw [← hD, pr, if_neg h40]
              subst hD2
              have hp : pN nT mk (k + 1, true) 59 = (k + 1, true) := (pN_ok (nT := nT) (mk := mk) (k + 1, true) 59).2.2 rfl
              refine ⟨fun _ => ⟨aBeg B k 0, ?_, rfl, hb0⟩, fun h => ?_⟩
              · show _ = ((pN nT mk (k + 1, true) 59).1, false, _)
                rw [hp]
                refine hst.trans ?_
                by_cases hk1 : k + 1 < nT
                · refine gR_n hk1 ?_
                  rw [aTok_1]
                  unfold aNam
                  rw [if_neg (fun h => h61 (by rw [pS_lt hk1]; exact h)), if_neg (fun h => h40 ⟨by rw [pS_lt hk1]; exact h.1, by have := h.2; have : o.length ≠ 12 := this; omega⟩)]
                · exact gR_e (by omega) (Or.inl (by simp))
              · have h : (pN nT mk (k + 1, true) 59).2 = false := h
                rw [hp] at h; cases h
        exact hgoal _ rfl
      · have hn : pN nT mk (k, false) 97 = (k, true) := if_neg (by rw [pS_lt hkn]; exact h97)
        have hd : (pDef nT mk tv sl same dp (k, false) (pBg T k dp)).1 = (k, true) := by
          unfold pDef
          rw [hn, if_neg (by rw [pS_stop rfl]; decide)]
          exact (pr_ok _ _ _ _ _ _ _).2.2 rfl
        have hp : pN nT mk (k, true) 59 = (k, true) := (pN_ok (nT := nT) (mk := mk) (k, true) 59).2.2 rfl
        refine ⟨fun _ => ⟨B, ?_, rfl, gFr.rf _ _⟩, fun h => ?_⟩
        · show _ = ((pN nT mk (pDef nT mk tv sl same dp (k, false) (pBg T k dp)).1 59).1, false, B)
          rw [hd, hp]
          refine gR_n hkn ?_
          rw [aTok_0]
          unfold aItem
          rw [if_neg h97, if_neg (fun h => h123 h.1), if_neg (fun h => ?_)]
          by_cases hoe : o = []
          · rw [hoe] at h; exact absurd h.2 (by simp [aTop])
          · exact h125 hkn hoe h.1
        · have h : (pN nT mk (pDef nT mk tv sl same dp (k, false) (pBg T k dp)).1 59).2 = false := h
          rw [hd, hp] at h; cases h
  · rw [if_pos (Or.inl (by show nT ≤ k; omega))]
    exact ⟨fun _ => ⟨B, gR_e (by omega) (Or.inr (by rcases hko with h | h; omega; exact h)), rfl, gFr.rf _ _⟩, fun h => by cases h⟩
variable (nT mk tv sl same) in
theorem gi_all (hnT : nT ≤ 160) : ∀ f, gItm nT mk tv sl same f ∧ gBlk nT mk tv sl same f
  | 0 => ⟨fun _ _ _ _ _ _ _ _ _ _ _ _ _ _ _ h => absurd h (by omega), fun _ _ _ _ _ _ _ _ _ _ _ _ _ _ h => absurd h (by omega)⟩
  | f + 1 => by
    obtain ⟨h1, h2⟩ := gi_all hnT f
    exact ⟨g_itm hnT h2, g_blk hnT h1 h2⟩
/-- all items -/
theorem g_A (hnT : nT ≤ 160) : ∀ (f i k : Nat) (T : pTr) (B : aB), B.1.1 = [] → T.1 = B.1.2.1 → B.1.2.2.1 = B.1.2.1 → T.1 ≤ k → k ≤ nT → i ≤ k → i + f = 160 → gEq mk T B 0 T.1 → ∃ B', gR nT mk k (0, []) B = ((pA nT mk tv sl same f i (k, false) T).1.1, !(pA nT mk tv sl same f i (k, false) T).1.2, B') ∧ B'.1.2.2.1 = (pA nT mk tv sl same f i (k, false) T).2.1 ∧ gEq mk (pA nT mk tv sl same f i (k, false) T).2 B' 0 (pA nT mk tv sl same f i (k, false) T).2.1
  | 0, i, k, T, B, hb, hT, hc, hTk, hk, hik, hif, he => by
    rw [pA]
    exact ⟨B, gR_E (by omega), hc.trans hT.symm, he⟩
  | f + 1, i, k, T, B, hb, hT, hc, hTk, hk, hik, hif, he => by
    rw [pA]
    by_cases hkn : k < nT
    · rw [if_neg (by rintro (h | h | h); omega; (have h : nT ≤ k := h; omega); cases h)]
      have hI := (gi_all nT mk tv sl same hnT 330).1 0 0 k T [] B rfl (fun x hx => by simp at hx) (by rw [hb]; rfl) (by omega) hk hT hTk (Or.inl hkn) (fun _ h => absurd rfl h) (by omega)
      have hok := (pi_ok (nT := nT) (mk := mk) (tv := tv) (sl := sl) (same := same) 330 0 0 0 (k, false) T)
      have hfr := pi_fr (nT := nT) (mk := mk) (tv := tv) (sl := sl) (same := same) 330 0 0 0 (k, false) T
      have hone : (pi nT mk tv sl same 330 0 0 0 (k, false) T).1.1.2 = false → k + 1 ≤ (pi nT mk tv sl same 330 0 0 0 (k, false) T).1.1.1 := fun h => pi_one h
      generalize (pi nT mk tv sl same 330 0 0 0 (k, false) T).1 = r at hI hok hfr hone ⊢
      obtain ⟨⟨k', u⟩, T'⟩ := r
      cases u with
      | true =>
        obtain ⟨B', e1, e2, e3⟩ := hI.1 rfl
        rw [if_pos rfl]
        have hs : ∀ (f i : Nat) (T : pTr), pA nT mk tv sl same f i (k', true) T = ((k', true), T) := by
          intro f i T
          cases f with
          | zero => rw [pA]
          | succ f => rw [pA, if_pos (Or.inr (Or.inr rfl))]
        show ∃ B', gR nT mk k (0, []) B = ((pA nT mk tv sl same f (i + 1) (k', true) (T.1, T'.2)).1.1, _, B') ∧ _
        rw [hs]
        refine ⟨B', e1, e2.trans (hc.trans hT.symm), ?_⟩
        exact he.cg (T' := (T.1, T'.2)) (fun j hj => hfr j hj) e3
      | false =>
        obtain ⟨B', e1, e2, e3, e4, e5, e6, e7, e8⟩ := hI.2 rfl
        rw [if_neg (show ¬ false = true by decide)]
        have e4 : B'.1.2.2.1 = B'.1.2.1 := e4
        have hk' : k' ≤ nT := hok.1.2.1 hk
        have hone : k + 1 ≤ k' := hone rfl
        obtain ⟨B2, g1, g2, g3⟩ := g_A hnT f (i + 1) k' T' B' (e2.trans hb) e3 e4 e7 hk' (by omega) (by omega) (fun j j1 j2 => by
          by_cases hj : j < T.1
          · exact (he.cg (hi := T.1) hfr e5) j j1 hj
          · exact e6 j (by omega) j2)
        exact ⟨B2, e1.trans g1, g2, g3⟩
    · have hkn : k = nT := by omega
      rw [if_pos (Or.inr (Or.inl (by show nT ≤ k; omega)))]
      exact ⟨B, gR_E hkn, hc.trans hT.symm, he⟩
end
