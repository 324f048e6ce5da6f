/- tokens as functions of their number; what reading leaves -/
theorem lTok_ord (t : Nat → Nat) (n : Nat) : ∀ (f p k j : Nat) (q q' : Nat × Nat × Nat), k < j → (lTok t n f p)[k]? = some q → (lTok t n f p)[j]? = some q' → q.1 + q.2.1 ≤ q'.1
  | 0, p, k, j, q, q', _, h, _ => by simp [lTok] at h
  | f + 1, p, k, j, q, q', hkj, h, h' => by
    unfold lTok at h h'
    split at h
    · rename_i hp
      rw [if_pos hp] at h'
      obtain ⟨j, rfl⟩ : ∃ j', j = j' + 1 := ⟨j - 1, by omega⟩
      rw [List.getElem?_cons_succ] at h'
      cases k with
      | zero =>
        simp at h
        subst h
        have h1 := lTok_in t n f _ j q' h'
        have h2 := lBl_in t (n - lEnd t n p) (lEnd t n p) false
        have h3 := lEnd_in t hp
        show p + (lEnd t n p - p) ≤ q'.1
        omega
      | succ k =>
        rw [List.getElem?_cons_succ] at h
        exact lTok_ord t n f _ k j q q' (by omega) h h'
    · simp at h
/-- tokens in order, within e characters -/
def tsOk (e : Nat) (ts : List (Nat × Nat × Nat)) : Prop := e ≤ 160 ∧ ts.length ≤ e ∧ (∀ (k : Nat) (q : Nat × Nat × Nat), ts[k]? = some q → 0 < q.2.1 ∧ q.1 + q.2.1 ≤ e ∧ q.2.2 < 5) ∧ ∀ (k j : Nat) (q q' : Nat × Nat × Nat), k < j → ts[k]? = some q → ts[j]? = some q' → q.1 + q.2.1 ≤ q'.1
theorem tsOk_all {t : Nat → Nat} {e : Nat} (he : e ≤ 160) : tsOk e (lAll t e) :=
  ⟨he, lTok_len t e 161 _, fun k q h => (lTok_in t e 161 _ k q h).2, fun k j q q' hkj h h' => lTok_ord t e 161 _ k j q q' hkj h h'⟩
def tk (ts : List (Nat × Nat × Nat)) (k : Nat) : Nat × Nat × Nat := ts.getD k (0, 0, 0)
def tV (ts : List (Nat × Nat × Nat)) (k : Nat) : Nat := (tk ts k).1 * 2048 + (tk ts k).2.1 * 8 + (tk ts k).2.2
def tMk (t : Nat → Nat) (ts : List (Nat × Nat × Nat)) (k : Nat) : Nat := lMk (tk ts k).2.2 (t (tk ts k).1)
def tSl (ts : List (Nat × Nat × Nat)) (k : Nat) : Nat := (tk ts k).2.1
def tTv (t : Nat → Nat) (ts : List (Nat × Nat × Nat)) (k : Nat) : Int32 := lDv t (tk ts k).1 (tk ts k).2.1
def tSm (t : Nat → Nat) (ts : List (Nat × Nat × Nat)) (a z : Nat) : Bool := if tV ts a % 2048 = tV ts z % 2048 then lSame t (tV ts a % 2048 / 8) (tV ts a / 2048) (tV ts z / 2048) else false
theorem tk_at {ts : List (Nat × Nat × Nat)} {k : Nat} (h : k < ts.length) : ts[k]? = some (tk ts k) := by
  unfold tk; rw [List.getD_eq_getElem?_getD, List.getElem?_eq_getElem h]; rfl
theorem tV_in {e : Nat} {ts : List (Nat × Nat × Nat)} (h : tsOk e ts) {k : Nat} (hk : k < ts.length) : tV ts k < 2 ^ 24 ∧ tV ts k / 2048 = (tk ts k).1 ∧ tV ts k % 2048 / 8 = (tk ts k).2.1 ∧ tV ts k % 8 = (tk ts k).2.2 ∧ (tk ts k).1 + (tk ts k).2.1 ≤ e ∧ 0 < (tk ts k).2.1 := by
  have h1 := h.2.2.1 k _ (tk_at hk)
  have h0 := h.1
  unfold tV
  generalize tk ts k = q at h1
  obtain ⟨a, l, c⟩ := q
  simp only at h1 ⊢
  omega
theorem tV_lt {e : Nat} {ts : List (Nat × Nat × Nat)} (h : tsOk e ts) {k j : Nat} (hkj : k < j) (hj : j < ts.length) : tV ts k < tV ts j := by
  have h1 := h.2.2.2 k j _ _ hkj (tk_at (by omega)) (tk_at hj)
  have h2 := h.2.2.1 k _ (tk_at (show k < ts.length by omega))
  have h3 := h.1
  unfold tV
  generalize tk ts k = q at h1 h2
  generalize tk ts j = q' at h1
  obtain ⟨a, l, c⟩ := q
  obtain ⟨a', l', c'⟩ := q'
  simp only at h1 h2 ⊢
  omega
theorem Pkd_of {M : zM} {r e : Nat} {t : Nat → Nat} {ts : List (Nat × Nat × Nat)} (h : Toks M r t ts) (ho : tsOk e ts) : Pkd M r ts.length (tV ts) :=
  ⟨h.1, Nat.le_trans ho.2.1 ho.1, fun k hk => ⟨(h.2 k _ (tk_at hk)).1, (tV_in ho hk).1⟩, fun k j hkj hj => tV_lt ho hkj hj⟩
theorem Mks_of {M : zM} {r e : Nat} {t : Nat → Nat} {ts : List (Nat × Nat × Nat)} (hT : Txt M r t e) (h : Toks M r t ts) (ho : tsOk e ts) : Mks M r ts.length (tMk t ts) :=
  ⟨h.1, Nat.le_trans ho.2.1 ho.1, fun k hk => ⟨(h.2 k _ (tk_at hk)).2, lMk_lt (hT.2.2 _ (by have := tV_in ho hk; omega)).2⟩⟩
theorem iOk_of {Lx : Nat} {xs : Nat → Int32} {M : zM} {n b r e : Nat} {t : Nat → Nat} {ts : List (Nat × Nat × Nat)} (hP : M.2.1 = zP0 n b) (hr : zR r) (hT : Txt M r t e) (h : Toks M r t ts) (ho : tsOk e ts) : iOk Lx xs M n b r ts.length (tMk t ts) (tTv t ts) (tSl ts) (tSm t ts) := by
  refine ⟨hP, hr, Mks_of hT h ho, fun MM hs => ?_⟩
  have hn : ts.length ≤ 160 := Nat.le_trans ho.2.1 ho.1
  have hP' : MM.2.1 = zP0 n b := hs.1.trans hP
  have hT' : Txt MM r t e := ⟨(hs.2 _ _ (by omega)).trans hT.1, hT.2.1, fun i hi => ⟨(hs.2 _ _ (by omega)).trans (hT.2.2 i hi).1, (hT.2.2 i hi).2⟩⟩
  have hv : ∀ k, k < ts.length → MM.1 (r + 4) k = nI (tV ts k) := fun k hk => (hs.2 _ _ (by omega)).trans (h.2 k _ (tk_at hk)).1
  have hv2 : ∀ k, k < ts.length → tV ts k < 2 ^ 31 := fun k hk => Nat.lt_trans (tV_in ho hk).1 (by decide)
  have hl : ∀ k, k < ts.length → tV ts k / 2048 + tV ts k % 2048 / 8 ≤ e := fun k hk => by have := tV_in ho hk; omega
  refine ⟨fun d k hk => ?_, fun d k hk hm => ?_, fun d a z ha hz => ?_⟩
  · have h1 := c_lengthOf (Lx := Lx) (xs := xs) (d := d) hP' hr (show k < 160 by omega) (hv k hk) (hv2 k hk)
    rw [(tV_in ho hk).2.2.1] at h1
    exact h1
  · have h1 := c_digitsValue (Lx := Lx) (xs := xs) (d := d) hP' hr hT' (show k < 160 by omega) (hv k hk) (hv2 k hk) (hl k hk)
    rw [(tV_in ho hk).2.2.1, (tV_in ho hk).2.1] at h1
    exact h1
  · exact c_areSame hP' hr hT' (by omega) (by omega) (hv a ha) (hv z hz) (hv2 a ha) (hv2 z hz) (hl a ha) (hl z hz)
section
variable {nT : Nat} {mk : Nat → Nat} {tv : Nat → Int32} {sl : Nat → Nat} {same : Nat → Nat → Bool}
/-- the items below k are as they were -/
def tFr (c : Nat) (T T' : pTr) : Prop := ∀ k, k < c → T'.2.1 k = T.2.1 k ∧ T'.2.2.1 k = T.2.2.1 k ∧ T'.2.2.2.1 k = T.2.2.2.1 k ∧ T'.2.2.2.2 k = T.2.2.2.2 k
theorem tFr.rf (c : Nat) (T : pTr) : tFr c T T := fun _ _ => ⟨rfl, rfl, rfl, rfl⟩
theorem tFr.tr {c c' : Nat} {T T1 T2 : pTr} (h : tFr c T T1) (h' : tFr c' T1 T2) (hc : c ≤ c') : tFr c T T2 := fun k hk => by
  obtain ⟨a1, a2, a3, a4⟩ := h k hk
  obtain ⟨b1, b2, b3, b4⟩ := h' k (by omega)
  exact ⟨b1.trans a1, b2.trans a2, b3.trans a3, b4.trans a4⟩
theorem tFr.bg (T : pTr) (p dp : Nat) : tFr T.1 T (pBg T p dp) := fun k hk => by
  have hk : k ≠ T.1 := by omega
  simp [pBg, upd, hk]
theorem tFr.va {c : Nat} {T T' : pTr} {k : Nat} {x : Int32} (h : tFr c T T') (hk : c ≤ k) : tFr c T (pVa T' k x) := fun j hj => by
  obtain ⟨a1, a2, a3, a4⟩ := h j hj
  have hj : j ≠ k := by omega
  simp [pVa, upd, hj, a1, a2, a3, a4]
theorem tFr.la {c : Nat} {T T' : pTr} {k : Nat} {x : Int32} (h : tFr c T T') (hk : c ≤ k) : tFr c T (pLa T' k x) := fun j hj => by
  obtain ⟨a1, a2, a3, a4⟩ := h j hj
  have hj : j ≠ k := by omega
  simp [pLa, upd, hj, a1, a2, a3, a4]
theorem pi_fr : ∀ (f tag dp i : Nat) (s : pE) (T : pTr), tFr T.1 T (pi nT mk tv sl same f tag dp i s T).1.2
  | 0, tag, dp, i, s, T => by rw [pi]; exact tFr.rf _ _
  | f + 1, 0, dp, i, s, T => by
    rw [pi]
    split
    · exact tFr.rf _ _
    split
    · split
      · have h1 := pi_fr f 1 dp 0 (s.1 + 1, s.2) (pBg T s.1 dp)
        exact (((tFr.bg T s.1 dp).tr h1 (Nat.le_succ _)).va (Nat.le_refl _)).la (Nat.le_refl _)
      · exact ((tFr.bg T s.1 dp).va (Nat.le_refl _)).la (Nat.le_refl _)
    · exact ((tFr.bg T s.1 dp).va (Nat.le_refl _)).la (Nat.le_refl _)
  | f + 1, tag + 1, dp, i, s, T => by
    rw [pi]
    · split
      · exact tFr.rf _ _
      · exact (pi_fr f 0 (dp + 1) 0 s T).tr (pi_fr f 1 dp (i + 1) _ _) (pi_ok f 0 (dp + 1) 0 s T).2.2
    all_goals omega
/-- the items from lo on are whole: a first and a last token -/
def tDn (nT lo : Nat) (T : pTr) : Prop := ∀ k, lo ≤ k → k < T.1 → ∃ a z, a ≤ z ∧ z < nT ∧ T.2.1 k = nI a ∧ T.2.2.1 k = nI z
theorem pi_dn : ∀ (f tag dp i : Nat) (s : pE) (T : pTr), s.1 ≤ nT → s.2 = false → (tag = 0 → 0 < f) → (pi nT mk tv sl same f tag dp i s T).1.1.2 = false → tDn nT T.1 (pi nT mk tv sl same f tag dp i s T).1.2
  | 0, tag, dp, i, s, T, _, _, _, _ => by rw [pi]; intro k h1 h2; exact absurd h1 (Nat.not_le_of_lt h2)
  | f + 1, 0, dp, i, s, T, hs, hu, _, he => by
    have hone := pi_one (f := f) (dp := dp) (i := i) (s := s) (T := T) he
    have hle := (pi_ok (nT := nT) (mk := mk) (tv := tv) (sl := sl) (same := same) (f + 1) 0 dp i s T).1.2.1 hs
    have hfr := pi_fr (nT := nT) (mk := mk) (tv := tv) (sl := sl) (same := same) (f + 1) 0 dp i s T
    have hown : ∀ X : (pE × pTr) × Nat, pi nT mk tv sl same (f + 1) 0 dp i s T = X → X.1.2.2.1 T.1 = nI s.1 → X.1.2.2.2.1 T.1 = nI X.1.1.1 - nI 1 → ∃ a z, a ≤ z ∧ z < nT ∧ X.1.2.2.1 T.1 = nI a ∧ X.1.2.2.2.1 T.1 = nI z := by
      intro X hX h1 h2
      rw [hX] at hone hle
      refine ⟨s.1, X.1.1.1 - 1, by omega, by omega, h1, ?_⟩
      rw [h2, pk_sub (by omega)]
    rw [pi] at he hown ⊢
    split at he
    · cases he
    rename_i hc
    rw [if_neg hc] at hown ⊢
    split at he
    · rename_i h123
      rw [if_pos h123] at hown ⊢
      split at he
      · rename_i ho
        rw [if_pos ho] at hown ⊢
        have hu9 := pS_iff.mp h123
        have hend : (pi nT mk tv sl same f 1 dp 0 (s.1 + 1, s.2) (pBg T s.1 dp)).1.1.2 = false := by
          cases hq : (pi nT mk tv sl same f 1 dp 0 (s.1 + 1, s.2) (pBg T s.1 dp)).1.1.2 with
          | false => rfl
          | true =>
            have := (pN_ok (nT := nT) (mk := mk) (pi nT mk tv sl same f 1 dp 0 (s.1 + 1, s.2) (pBg T s.1 dp)).1.1 125).2.2 hq
            rw [this, hq] at he
            cases he
        have hin := pi_dn f 1 dp 0 (s.1 + 1, s.2) (pBg T s.1 dp) hu9.2.1 hu9.1 (fun h => absurd h (by decide)) hend
        have hf1 := pi_fr (nT := nT) (mk := mk) (tv := tv) (sl := sl) (same := same) f 1 dp 0 (s.1 + 1, s.2) (pBg T s.1 dp)
        intro k hk1 hk2
        by_cases hkT : k = T.1
        · subst hkT
          refine hown _ rfl ?_ ?_
          · show (pi nT mk tv sl same f 1 dp 0 (s.1 + 1, s.2) (pBg T s.1 dp)).1.2.2.1 T.1 = nI s.1
            rw [(hf1 T.1 (Nat.lt_succ_self _)).1]
            simp [pBg, upd]
          · simp [pLa, upd]
        · obtain ⟨a, z, h1, h2, h3, h4⟩ := hin k (show T.1 + 1 ≤ k by omega) hk2
          exact ⟨a, z, h1, h2, h3, by simp [pLa, pVa, upd, hkT, h4]⟩
      · rename_i ho
        rcases pOb_f (Bool.eq_false_iff.mpr ho) with h1 | h1
        · rw [h123] at h1; cases h1
        · unfold pOs at he
          rw [if_pos h123, if_pos h1] at he
          cases he
    · rename_i h123
      rw [if_neg h123] at hown ⊢
      intro k hk1 hk2
      have hkT : k = T.1 := by
        have : k < T.1 + 1 := hk2
        omega
      subst hkT
      refine hown _ rfl ?_ ?_
      · simp [pLa, pVa, pBg, upd]
      · simp [pLa, upd]
  | f + 1, tag + 1, dp, i, s, T, hs, hu, _, he => by
    rw [pi] at he ⊢
    · split at he
      · rename_i hc
        rw [if_pos hc]
        intro k h1 h2; exact absurd h1 (Nat.not_le_of_lt h2)
      · rename_i hc
        rw [if_neg hc]
        cases f with
        | zero =>
          rw [pi, pi]
          intro k h1 h2; exact absurd h1 (Nat.not_le_of_lt h2)
        | succ f =>
          have hok := pi_ok (nT := nT) (mk := mk) (tv := tv) (sl := sl) (same := same) (f + 1) 0 (dp + 1) 0 s T
          have hu1 : (pi nT mk tv sl same (f + 1) 0 (dp + 1) 0 s T).1.1.2 = false := by
            cases hq : (pi nT mk tv sl same (f + 1) 0 (dp + 1) 0 s T).1.1.2 with
            | false => rfl
            | true =>
              have := (pi_ok (nT := nT) (mk := mk) (tv := tv) (sl := sl) (same := same) (f + 1) 1 dp (i + 1) (pi nT mk tv sl same (f + 1) 0 (dp + 1) 0 s T).1.1 (pi nT mk tv sl same (f + 1) 0 (dp + 1) 0 s T).1.2).1.2.2 hq
              rw [this, hq] at he
              cases he
          have h1 := pi_dn (f + 1) 0 (dp + 1) 0 s T hs hu (fun _ => Nat.succ_pos _) hu1
          have h2 := pi_dn (f + 1) 1 dp (i + 1) _ _ (hok.1.2.1 hs) hu1 (fun h => absurd h (by decide)) he
          have h3 := pi_fr (nT := nT) (mk := mk) (tv := tv) (sl := sl) (same := same) (f + 1) 1 dp (i + 1) (pi nT mk tv sl same (f + 1) 0 (dp + 1) 0 s T).1.1 (pi nT mk tv sl same (f + 1) 0 (dp + 1) 0 s T).1.2
          intro k hk1 hk2
          by_cases hk : k < (pi nT mk tv sl same (f + 1) 0 (dp + 1) 0 s T).1.2.1
          · obtain ⟨a, z, g1, g2, g3, g4⟩ := h1 k hk1 hk
            exact ⟨a, z, g1, g2, (h3 k hk).1.trans g3, (h3 k hk).2.1.trans g4⟩
          · exact h2 k (by omega) hk2
    all_goals omega
theorem pA_dn : ∀ (f i : Nat) (s : pE) (T : pTr), s.1 ≤ nT → tDn nT 0 T → tOk nT T → (pA nT mk tv sl same f i s T).1.1 ≤ nT ∧ tDn nT 0 (pA nT mk tv sl same f i s T).2 ∧ tOk nT (pA nT mk tv sl same f i s T).2
  | 0, i, s, T, hs, h, ho => by rw [pA]; exact ⟨hs, h, ho⟩
  | f + 1, i, s, T, hs, h, ho => by
    rw [pA]
    split
    · exact ⟨hs, h, ho⟩
    · rename_i hc
      have hu : s.2 = false := by
        cases hq : s.2 with
        | false => rfl
        | true => exact absurd (Or.inr (Or.inr hq)) hc
      obtain ⟨h1, h2, h3⟩ := pi_ok (nT := nT) (mk := mk) (tv := tv) (sl := sl) (same := same) 330 0 0 0 s T
      have hfr := pi_fr (nT := nT) (mk := mk) (tv := tv) (sl := sl) (same := same) 330 0 0 0 s T
      refine pA_dn f (i + 1) _ _ (h1.2.1 hs) ?_ ?_
      · split
        · intro k hk1 hk2
          obtain ⟨a, z, g1, g2, g3, g4⟩ := h k hk1 hk2
          exact ⟨a, z, g1, g2, (hfr k hk2).1.trans g3, (hfr k hk2).2.1.trans g4⟩
        · rename_i hz
          have hd := pi_dn (nT := nT) (mk := mk) (tv := tv) (sl := sl) (same := same) 330 0 0 0 s T hs hu (fun _ => by decide) (Bool.eq_false_iff.mpr hz)
          intro k hk1 hk2
          by_cases hk : k < T.1
          · obtain ⟨a, z, g1, g2, g3, g4⟩ := h k hk1 hk
            exact ⟨a, z, g1, g2, (hfr k hk).1.trans g3, (hfr k hk).2.1.trans g4⟩
          · exact hd k (by omega) hk2
      · split
        · exact ⟨ho.1, fun k hk => (h2 ho).2 k (Nat.lt_of_lt_of_le hk h3)⟩
        · exact h2 ho
end
