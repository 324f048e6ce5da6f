/- items, as the class reads them: how many have begun, firsts, lasts, levels, values -/
abbrev pTr : Type := Nat × (Nat → Int32) × (Nat → Int32) × (Nat → Int32) × (Nat → Int32)
def pVa (T : pTr) (k : Nat) (x : Int32) : pTr := (T.1, T.2.1, T.2.2.1, T.2.2.2.1, upd T.2.2.2.2 k x)
def pLa (T : pTr) (k : Nat) (x : Int32) : pTr := (T.1, T.2.1, upd T.2.2.1 k x, T.2.2.2.1, T.2.2.2.2)
def pBg (T : pTr) (p dp : Nat) : pTr := (T.1 + 1, upd T.2.1 T.1 (nI p), T.2.2.1, upd T.2.2.2.1 T.1 (nI dp), T.2.2.2.2)
/-- the value of a name: the last item before that gives it one -/
def pNv (nT : Nat) (mk : Nat → Nat) (same : Nat → Nat → Bool) (fi : Nat → Nat) (va : Nat → Int32) : Nat → Nat → Int32
  | 0, _ => nI 0
  | k + 1, nm => if (fi k + 1 < nT ∧ mk (fi k + 1) = 61) ∧ same (fi k) nm = true then va k else pNv nT mk same fi va k nm
def pNvT (nT : Nat) (mk : Nat → Nat) (same : Nat → Nat → Bool) (T : pTr) : Nat → Int32 := pNv nT mk same (fun k => (T.2.1 k).toNatClampNeg) T.2.2.2.2 (T.1 - 1)
section
variable (nT : Nat) (mk : Nat → Nat) (tv : Nat → Int32) (sl : Nat → Nat) (same : Nat → Nat → Bool)
/-- behind an item's name -/
def pDef (dp : Nat) (s : pE) (T : pTr) : pE × Int32 :=
  if pS nT mk (pN nT mk s 97) 61 = true then pr nT mk tv sl (pNvT nT mk same T) 810 0 dp 0 0 0 ((pN nT mk s 97).1 + 1, (pN nT mk s 97).2) else pr nT mk tv sl (pNvT nT mk same T) 810 2 dp s.1 0 0 (pN nT mk s 97)
/-- 0 an item; else the items inside a block, of which i were read -/
def pi : Nat → Nat → Nat → Nat → pE → pTr → (pE × pTr) × Nat
  | 0, _, _, i, s, T => ((s, T), i)
  | f + 1, 0, dp, i, s, T =>
    if nT ≤ s.1 ∨ 160 ≤ T.1 then (((s.1, true), T), i)
    else if pS nT mk s 123 = true then
      (if pOb nT mk s 123 dp = true then ((pN nT mk (pi f 1 dp 0 (s.1 + 1, s.2) (pBg T s.1 dp)).1.1 125, pLa (pVa (pi f 1 dp 0 (s.1 + 1, s.2) (pBg T s.1 dp)).1.2 T.1 (nI (pi f 1 dp 0 (s.1 + 1, s.2) (pBg T s.1 dp)).2)) T.1 (nI (pN nT mk (pi f 1 dp 0 (s.1 + 1, s.2) (pBg T s.1 dp)).1.1 125).1 - nI 1)), i)
       else ((pOs nT mk s 123 dp, pLa (pVa (pBg T s.1 dp) T.1 (nI 0)) T.1 (nI (pOs nT mk s 123 dp).1 - nI 1)), i))
    else ((pN nT mk (pDef nT mk tv sl same dp s (pBg T s.1 dp)).1 59, pLa (pVa (pBg T s.1 dp) T.1 (pDef nT mk tv sl same dp s (pBg T s.1 dp)).2) T.1 (nI (pN nT mk (pDef nT mk tv sl same dp s (pBg T s.1 dp)).1 59).1 - nI 1)), i)
  | f + 1, _, dp, i, s, T =>
    if 160 ≤ i ∨ s.2 = true ∨ pS nT mk s 125 = true then ((s, T), i)
    else pi f 1 dp (i + 1) (pi f 0 (dp + 1) 0 s T).1.1 (pi f 0 (dp + 1) 0 s T).1.2
def pB (f dp : Nat) (s : pE) (T : pTr) : (pE × pTr) × Nat :=
  if pOb nT mk s 123 dp = true then ((pN nT mk (pi nT mk tv sl same f 1 dp 0 (s.1 + 1, s.2) T).1.1 125, (pi nT mk tv sl same f 1 dp 0 (s.1 + 1, s.2) T).1.2), (pi nT mk tv sl same f 1 dp 0 (s.1 + 1, s.2) T).2) else ((pOs nT mk s 123 dp, T), 0)
end
/-- the firsts are tokens -/
def tOk (nT : Nat) (T : pTr) : Prop := T.1 ≤ 160 ∧ ∀ k, k < T.1 → ∃ p, p < nT ∧ T.2.1 k = nI p
section
variable {nT : Nat} {mk : Nat → Nat} {tv : Nat → Int32} {sl : Nat → Nat} {same : Nat → Nat → Bool}
theorem tOk.bg {T : pTr} {p dp : Nat} (h : tOk nT T) (hp : p < nT) (hc : T.1 < 160) : tOk nT (pBg T p dp) := by
  refine ⟨hc, fun k hk => ?_⟩
  have hk : k < T.1 + 1 := hk
  by_cases hkc : k = T.1
  · subst hkc
    exact ⟨p, hp, by simp [pBg, upd]⟩
  · obtain ⟨q, hq, he⟩ := h.2 k (by omega)
    exact ⟨q, hq, by simp [pBg, upd, hkc, he]⟩
theorem pOs_ok {s : pE} {c dp : Nat} : pOk nT s (pOs nT mk s c dp) := by
  unfold pOs
  split
  · rename_i h
    split
    · exact pOk.stop s
    · exact pOk.one h
  · exact pOk.rf s
theorem pDef_ok (dp : Nat) (s : pE) (T : pTr) : pOk nT s (pDef nT mk tv sl same dp s T).1 := by
  unfold pDef
  split
  · rename_i h
    exact ((pN_ok s 97).tr (pOk.one h)).tr (pr_ok _ _ _ _ _ _ _)
  · exact (pN_ok s 97).tr (pr_ok _ _ _ _ _ _ _)
/-- an item's or a block's reading goes on within the tokens, and keeps the firsts tokens -/
theorem pi_ok : ∀ (f tag dp i : Nat) (s : pE) (T : pTr), pOk nT s (pi nT mk tv sl same f tag dp i s T).1.1 ∧ (tOk nT T → tOk nT (pi nT mk tv sl same f tag dp i s T).1.2) ∧ T.1 ≤ (pi nT mk tv sl same f tag dp i s T).1.2.1
  | 0, tag, dp, i, s, T => by rw [pi]; exact ⟨pOk.rf s, fun h => h, Nat.le_refl _⟩
  | f + 1, 0, dp, i, s, T => by
    rw [pi]
    split
    · exact ⟨pOk.stop s, fun h => h, Nat.le_refl _⟩
    rename_i hc
    split
    · rename_i hs
      split
      · rename_i ho
        obtain ⟨h1, h2, h3⟩ := pi_ok f 1 dp 0 (s.1 + 1, s.2) (pBg T s.1 dp)
        exact ⟨((pOk.one hs).tr h1).tr (pN_ok _ _), fun h => h2 (h.bg (by omega) (by omega)), Nat.le_trans (Nat.le_succ _) h3⟩
      · exact ⟨pOs_ok, fun h => h.bg (p := s.1) (dp := dp) (by omega) (by omega), Nat.le_succ _⟩
    · exact ⟨(pDef_ok dp s _).tr (pN_ok _ _), fun h => h.bg (p := s.1) (dp := dp) (by omega) (by omega), Nat.le_succ _⟩
  | f + 1, tag + 1, dp, i, s, T => by
    rw [pi]
    · split
      · exact ⟨pOk.rf s, fun h => h, Nat.le_refl _⟩
      · obtain ⟨h1, h2, h3⟩ := pi_ok f 0 (dp + 1) 0 s T
        obtain ⟨g1, g2, g3⟩ := pi_ok f 1 dp (i + 1) (pi nT mk tv sl same f 0 (dp + 1) 0 s T).1.1 (pi nT mk tv sl same f 0 (dp + 1) 0 s T).1.2
        exact ⟨h1.tr g1, fun h => g2 (h2 h), Nat.le_trans h3 g3⟩
    all_goals omega
/-- an item that is read to its end has a token -/
theorem pi_one {f dp i : Nat} {s : pE} {T : pTr} (h : (pi nT mk tv sl same (f + 1) 0 dp i s T).1.1.2 = false) : s.1 + 1 ≤ (pi nT mk tv sl same (f + 1) 0 dp i s T).1.1.1 := by
  rw [pi] at h ⊢
  split at h
  · cases h
  rename_i hc
  rw [if_neg hc]
  split at h
  · rename_i hs
    rw [if_pos hs]
    split at h
    · rename_i ho
      rw [if_pos ho]
      exact (((pi_ok f 1 dp 0 (s.1 + 1, s.2) (pBg T s.1 dp)).1).tr (pN_ok _ _)).1
    · rename_i ho
      unfold pOs at h
      rw [if_pos hs] at h
      have h12 : 12 ≤ dp := by
        rcases pOb_f (Bool.eq_false_iff.mpr ho) with h1 | h1
        · rw [hs] at h1; cases h1
        · exact h1
      rw [if_pos h12] at h
      cases h
  · rename_i hs
    rw [if_neg hs]
    have h97 : pS nT mk s 97 = true := by
      cases hq : pS nT mk s 97 with
      | true => rfl
      | false =>
        have hn : pN nT mk s 97 = (s.1, true) := if_neg (by rw [hq]; decide)
        have hd : (pDef nT mk tv sl same dp s (pBg T s.1 dp)).1 = (s.1, true) := by
          unfold pDef
          rw [hn, if_neg (by rw [pS_stop rfl]; decide)]
          exact (pr_ok _ _ _ _ _ _ _).2.2 rfl
        rw [hd] at h
        have : pN nT mk (s.1, true) 59 = (s.1, true) := (pN_ok (nT := nT) (mk := mk) (s.1, true) 59).2.2 rfl
        rw [this] at h
        cases h
    have hn : pN nT mk s 97 = (s.1 + 1, s.2) := if_pos h97
    have hd : pOk nT (s.1 + 1, s.2) (pDef nT mk tv sl same dp s (pBg T s.1 dp)).1 := by
      unfold pDef
      rw [hn]
      split
      · rename_i h; exact (pOk.one h).tr (pr_ok _ _ _ _ _ _ _)
      · exact pr_ok _ _ _ _ _ _ _
    exact (hd.tr (pN_ok _ _)).1
end
/- the tree in memory -/
def mR (M : zM) (r : Nat) (T : pTr) : zM := (fun a => if a = r + 6 then T.2.1 else if a = r + 7 then T.2.2.1 else if a = r + 8 then T.2.2.2.1 else if a = r + 9 then T.2.2.2.2 else if a = r + 2 then upd (M.1 (r + 2)) 5 (nI T.1) else M.1 a, M.2)
section
variable {M : zM} {r : Nat} {T : pTr} {s : pE}
theorem mR_F {i : Nat} : (mR M r T).1 (r + 6) i = T.2.1 i := by simp [mR]
theorem mR_L {i : Nat} : (mR M r T).1 (r + 7) i = T.2.2.1 i := by simp [mR]
theorem mR_V {i : Nat} : (mR M r T).1 (r + 8) i = T.2.2.2.1 i := by simp [mR]
theorem mR_A {i : Nat} : (mR M r T).1 (r + 9) i = T.2.2.2.2 i := by simp [mR]
theorem mR_c : (mR M r T).1 (r + 2) 5 = nI T.1 := by simp [mR, upd]
theorem mR_o {a i : Nat} (h : a < r + 2 ∨ (r + 2 < a ∧ a < r + 6) ∨ r + 9 < a) : (mR M r T).1 a i = M.1 a i := by
  unfold mR
  show (if a = r + 6 then T.2.1 else if a = r + 7 then T.2.2.1 else if a = r + 8 then T.2.2.2.1 else if a = r + 9 then T.2.2.2.2 else if a = r + 2 then upd (M.1 (r + 2)) 5 (nI T.1) else M.1 a) i = M.1 a i
  rw [if_neg (by omega), if_neg (by omega), if_neg (by omega), if_neg (by omega), if_neg (by omega)]
theorem mR_2 {i : Nat} (h : i ≠ 5) : (mR M r T).1 (r + 2) i = M.1 (r + 2) i := by simp [mR, upd, h]
theorem zIE {o k : Nat} {x : Int32} (h : o ≠ r) : zI (mE M r s) o k x = mE (zI M o k x) r s := by
  refine zM_ext (fun a i => ?_) rfl
  unfold mE
  simp only [zI_at]
  (repeat' split) <;> first | rfl | (exfalso; omega) | simp_all
theorem mR_cnt {c : Nat} : zI (mR M r T) (r + 2) 5 (nI c) = mR M r (c, T.2) := by
  refine zM_ext (fun a i => ?_) rfl
  rw [zI_at]
  by_cases h : a = r + 2
  · subst h
    by_cases h5 : i = 5
    · subst h5; rw [if_pos ⟨rfl, rfl⟩]; exact (mR_c (T := (c, T.2))).symm
    · rw [mR_2 h5, mR_2 h5]; simp [h5]
  · rw [if_neg (fun hh => h hh.1)]
    simp only [mR]
    (repeat' split) <;> first | rfl | (exfalso; omega)
theorem mR_first {k : Nat} {x : Int32} : zI (mR M r T) (r + 6) k x = mR M r (T.1, upd T.2.1 k x, T.2.2) := by
  refine zM_ext (fun a i => ?_) rfl
  rw [zI_at]
  by_cases h : a = r + 6
  · subst h; rw [mR_F, mR_F]; simp [upd]
  · rw [if_neg (fun hh => h hh.1)]
    simp only [mR]
    (repeat' split) <;> first | rfl | (exfalso; omega)
theorem mR_last {k : Nat} {x : Int32} : zI (mR M r T) (r + 7) k x = mR M r (pLa T k x) := by
  refine zM_ext (fun a i => ?_) rfl
  rw [zI_at]
  by_cases h : a = r + 7
  · subst h; rw [mR_L, mR_L]; simp [upd, pLa]
  · rw [if_neg (fun hh => h hh.1)]
    simp only [mR, pLa]
    (repeat' split) <;> first | rfl | (exfalso; omega)
theorem mR_level {k : Nat} {x : Int32} : zI (mR M r T) (r + 8) k x = mR M r (T.1, T.2.1, T.2.2.1, upd T.2.2.2.1 k x, T.2.2.2.2) := by
  refine zM_ext (fun a i => ?_) rfl
  rw [zI_at]
  by_cases h : a = r + 8
  · subst h; rw [mR_V, mR_V]; simp [upd]
  · rw [if_neg (fun hh => h hh.1)]
    simp only [mR]
    (repeat' split) <;> first | rfl | (exfalso; omega)
theorem mR_value {k : Nat} {x : Int32} : zI (mR M r T) (r + 9) k x = mR M r (pVa T k x) := by
  refine zM_ext (fun a i => ?_) rfl
  rw [zI_at]
  by_cases h : a = r + 9
  · subst h; rw [mR_A, mR_A]; simp [upd, pVa]
  · rw [if_neg (fun hh => h hh.1)]
    simp only [mR, pVa]
    (repeat' split) <;> first | rfl | (exfalso; omega)
end
