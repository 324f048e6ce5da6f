/- tokens and items that stay: both sides agree -/
theorem tV_inj {e e' : Nat} {ts ts' : List (Nat × Nat × Nat)} (h : tsOk e ts) (h' : tsOk e' ts') {i k : Nat} (hi : i < ts.length) (hk : k < ts'.length) (he : tV ts i = tV ts' k) : tk ts i = tk ts' k := by
  have h1 := h.2.2.1 i _ (tk_at hi)
  have h2 := h'.2.2.1 k _ (tk_at hk)
  have h0 := h.1
  have h0' := h'.1
  unfold tV at he
  generalize tk ts i = q at *
  generalize tk ts' k = q' at *
  obtain ⟨a, l, c⟩ := q
  obtain ⟨a', l', c'⟩ := q'
  simp only at *
  have : a = a' ∧ l = l' ∧ c = c' := by omega
  obtain ⟨rfl, rfl, rfl⟩ := this
  rfl
section
variable {e e' p g w : Nat} {ts ts' : List (Nat × Nat × Nat)}
theorem mv_due (h : tsOk e ts) (h' : tsOk e' ts') {i k : Nat} (hi : i < ts.length) (hk : k < ts'.length) : mvT p g w (tk ts i) = some (tk ts' k) ↔ dueV p g w (tV ts i) = some (tV ts' k) := by
  obtain ⟨-, v1, v2, v3, v4, v5⟩ := tV_in h hi
  have h1 := h.2.2.1 i _ (tk_at hi)
  have h2 := h'.2.2.1 k _ (tk_at hk)
  have h0 := h.1
  have h0' := h'.1
  unfold mvT dueV
  rw [v1, v2]
  by_cases hp : (tk ts i).1 + (tk ts i).2.1 ≤ p
  · rw [if_pos hp, if_pos hp]
    constructor
    · intro hh
      have hh := Option.some.inj hh
      unfold tV; rw [hh]
    · intro hh
      rw [tV_inj h h' hi hk (Option.some.inj hh)]
  · rw [if_neg hp, if_neg hp]
    by_cases hq : p + g ≤ (tk ts i).1
    · rw [if_pos hq, if_pos hq]
      unfold tV
      generalize tk ts i = q at *
      generalize tk ts' k = q' at *
      obtain ⟨a, l, c⟩ := q
      obtain ⟨a', l', c'⟩ := q'
      simp only [Option.some.injEq, Prod.mk.injEq] at *
      omega
    · rw [if_neg hq, if_neg hq]; simp
theorem due_inj (h : tsOk e ts) {i i' x : Nat} (hi : i < ts.length) (hi' : i' < ts.length) (h1 : dueV p g w (tV ts i) = some x) (h2 : dueV p g w (tV ts i') = some x) : i = i' := by
  obtain ⟨-, v1, v2, v3, v4, v5⟩ := tV_in h hi
  obtain ⟨-, u1, u2, u3, u4, u5⟩ := tV_in h hi'
  have hlt : i < i' → tV ts i < tV ts i' := fun hh => tV_lt h hh hi'
  have hgt : i' < i → tV ts i' < tV ts i := fun hh => tV_lt h hh hi
  unfold dueV at h1 h2
  rw [v1, v2] at h1
  rw [u1, u2] at h2
  have t1 : tV ts i = (tk ts i).1 * 2048 + (tk ts i).2.1 * 8 + (tk ts i).2.2 := rfl
  have t2 : tV ts i' = (tk ts i').1 * 2048 + (tk ts i').2.1 * 8 + (tk ts i').2.2 := rfl
  have b1 := h.2.2.1 i _ (tk_at hi)
  have b2 := h.2.2.1 i' _ (tk_at hi')
  have h0 := h.1
  split at h1 <;> split at h2
  · have := Option.some.inj h1; have := Option.some.inj h2; omega
  · split at h2
    · have := Option.some.inj h1; have := Option.some.inj h2; omega
    · cases h2
  · split at h1
    · have := Option.some.inj h1; have := Option.some.inj h2; omega
    · cases h1
  · split at h1
    · split at h2
      · have := Option.some.inj h1; have := Option.some.inj h2; omega
      · cases h2
    · cases h1
theorem tV_uniq (h : tsOk e ts) {i i' : Nat} (hi : i < ts.length) (hi' : i' < ts.length) (hh : tV ts i = tV ts i') : i = i' := by
  have hlt : i < i' → tV ts i < tV ts i' := fun hh => tV_lt h hh hi'
  have hgt : i' < i → tV ts i' < tV ts i := fun hh => tV_lt h hh hi
  omega
theorem tAt_spec (q : Nat × Nat × Nat) : ∀ (f k : Nat), (tAt ts q f k = -1 ∧ ∀ j, k ≤ j → j < k + f → tk ts j ≠ q) ∨ ∃ j, k ≤ j ∧ j < k + f ∧ tAt ts q f k = nI j ∧ tk ts j = q
  | 0, k => Or.inl ⟨rfl, fun j h1 h2 => by omega⟩
  | f + 1, k => by
    unfold tAt
    by_cases hc : (tk ts k).1 = q.1 ∧ (tk ts k).2.1 = q.2.1 ∧ (tk ts k).2.2 = q.2.2
    · rw [if_pos hc]
      exact Or.inr ⟨k, Nat.le_refl _, by omega, rfl, Prod.ext hc.1 (Prod.ext hc.2.1 hc.2.2)⟩
    · rw [if_neg hc]
      rcases tAt_spec q f (k + 1) with ⟨h1, h2⟩ | ⟨j, j1, j2, j3, j4⟩
      · refine Or.inl ⟨h1, fun j j1 j2 => ?_⟩
        by_cases hj : j = k
        · subst hj; intro hh; rw [hh] at hc; exact hc ⟨rfl, rfl, rfl⟩
        · exact h2 j (by omega) (by omega)
      · exact Or.inr ⟨j, by omega, by omega, j3, j4⟩
theorem nI_m1 {k : Nat} (h : k < 2 ^ 31) : nI k ≠ -1 := fun hh => by
  have h1 : ¬ nI k < nI 0 := nI_nlt (Nat.zero_le _) h
  rw [hh] at h1
  exact h1 (by decide)
/-- where token i goes -/
theorem im_spec (h : tsOk e ts) (h' : tsOk e' ts') {i : Nat} (hi : i < ts.length) : (imV p g w ts' (tk ts i) = -1 ∧ ∀ k, k < ts'.length → dueV p g w (tV ts i) ≠ some (tV ts' k)) ∨ ∃ k, k < ts'.length ∧ imV p g w ts' (tk ts i) = nI k ∧ dueV p g w (tV ts i) = some (tV ts' k) := by
  unfold imV
  cases hm : mvT p g w (tk ts i) with
  | none => exact Or.inl ⟨rfl, fun k hk hh => by rw [(mv_due h h' hi hk).mpr hh] at hm; cases hm⟩
  | some x =>
    rcases tAt_spec (ts := ts') x ts'.length 0 with ⟨h1, h2⟩ | ⟨j, j1, j2, j3, j4⟩
    · refine Or.inl ⟨h1, fun k hk hh => ?_⟩
      rw [(mv_due h h' hi hk).mpr hh] at hm
      exact h2 k (Nat.zero_le _) (by omega) (Option.some.inj hm)
    · refine Or.inr ⟨j, by omega, j3, (mv_due h h' hi (by omega)).mp ?_⟩
      rw [hm, j4]
theorem im_iff (h : tsOk e ts) (h' : tsOk e' ts') {i k : Nat} (hi : i < ts.length) (hk : k < ts'.length) : imV p g w ts' (tk ts i) = nI k ↔ dueV p g w (tV ts i) = some (tV ts' k) := by
  have h160 : ts'.length ≤ 160 := Nat.le_trans h'.2.1 h'.1
  rcases im_spec (p := p) (g := g) (w := w) h h' hi with ⟨h1, h2⟩ | ⟨j, j1, j2, j3⟩
  · rw [h1]
    exact ⟨fun hh => absurd hh.symm (nI_m1 (by omega)), fun hh => absurd hh (h2 k hk)⟩
  · rw [j2, j3]
    constructor
    · intro hh
      rw [nI_eq (by omega) (by omega)] at hh
      rw [hh]
    · intro hh
      rw [tV_uniq h' j1 hk (Option.some.inj hh)]
theorem oO_spec {V0 V1 : Nat → Nat} {k : Nat} : ∀ (n : Nat), (oO p g w V0 V1 k n = none ∧ ∀ i, i < n → dueV p g w (V0 i) ≠ some (V1 k)) ∨ ∃ i, i < n ∧ oO p g w V0 V1 k n = some i ∧ dueV p g w (V0 i) = some (V1 k)
  | 0 => Or.inl ⟨rfl, fun i hi => by omega⟩
  | n + 1 => by
    unfold oO
    by_cases hc : dueV p g w (V0 n) = some (V1 k)
    · rw [if_pos hc]; exact Or.inr ⟨n, by omega, rfl, hc⟩
    · rw [if_neg hc]
      rcases oO_spec (V0 := V0) (V1 := V1) (k := k) n with ⟨h1, h2⟩ | ⟨i, i1, i2, i3⟩
      · refine Or.inl ⟨h1, fun i hi => ?_⟩
        by_cases hin : i = n
        · subst hin; exact hc
        · exact h2 i (by omega)
      · exact Or.inr ⟨i, by omega, i2, i3⟩
theorem eO_iff (h : tsOk e ts) {i k : Nat} : eO p g w ts ts' k = some i ↔ i < ts.length ∧ dueV p g w (tV ts i) = some (tV ts' k) := by
  unfold eO
  rcases oO_spec (p := p) (g := g) (w := w) (V0 := tV ts) (V1 := tV ts') (k := k) ts.length with ⟨h1, h2⟩ | ⟨j, j1, j2, j3⟩
  · rw [h1]
    exact ⟨(fun hh => by cases hh), (fun hh => absurd hh.2 (h2 i hh.1))⟩
  · rw [j2]
    constructor
    · intro hh; cases hh; exact ⟨j1, j3⟩
    · intro hh; rw [due_inj h hh.1 j1 hh.2 j3]
theorem im_O (h : tsOk e ts) (h' : tsOk e' ts') {i k : Nat} (hi : i < ts.length) (hk : k < ts'.length) : imV p g w ts' (tk ts i) = nI k ↔ eO p g w ts ts' k = some i := by
  rw [im_iff h h' hi hk, eO_iff h]
  exact ⟨fun hh => ⟨hi, hh⟩, fun hh => hh.2⟩
theorem imC_oC (h : tsOk e ts) (h' : tsOk e' ts') : ∀ (n : Nat), n ≤ ts.length → imC (fun j => imV p g w ts' (tk ts j)) n = oC p g w (tV ts) (tV ts') ts'.length n
  | 0, _ => rfl
  | n + 1, hn => by
    have h160 : ts'.length ≤ 160 := Nat.le_trans h'.2.1 h'.1
    unfold imC oC
    rw [imC_oC h h' n (by omega)]
    congr 1
    rcases im_spec (p := p) (g := g) (w := w) h h' (show n < ts.length by omega) with ⟨h1, h2⟩ | ⟨j, j1, j2, j3⟩
    · have : oSt p g w (tV ts) (tV ts') ts'.length n = false := by
        unfold oSt
        rw [List.any_eq_false]
        intro k hk
        simp only [List.mem_range] at hk
        simpa using h2 k hk
      rw [this]
      show (if imV p g w ts' (tk ts n) < nI 0 then 0 else 1) = _
      rw [h1]; rfl
    · have : oSt p g w (tV ts) (tV ts') ts'.length n = true := by
        unfold oSt
        rw [List.any_eq_true]
        exact ⟨j, by simpa using j1, by simpa using j3⟩
      rw [this]
      show (if imV p g w ts' (tk ts n) < nI 0 then 0 else 1) = _
      rw [j2, if_neg (nI_nlt (Nat.zero_le _) (by omega))]; rfl
theorem mRun_iff {im : Nat → Int32} {a q : Nat} : ∀ (f t : Nat), mRun im a q f t = true ↔ ∀ i, t ≤ i → i < t + f → im i = nI (a + i - q)
  | 0, t => ⟨fun _ i h1 h2 => by omega, fun _ => rfl⟩
  | f + 1, t => by
    unfold mRun
    rw [Bool.and_eq_true, mRun_iff f (t + 1), decide_eq_true_eq]
    constructor
    · rintro ⟨h1, h2⟩ i i1 i2
      by_cases hi : i = t
      · subst hi; exact h1
      · exact h2 i (by omega) (by omega)
    · intro hh
      exact ⟨hh t (Nat.le_refl _) (by omega), fun i i1 i2 => hh i (by omega) (by omega)⟩
theorem oRun_iff {O : Nat → Option Nat} {q a : Nat} : ∀ (f t : Nat), oRun O q a f t = true ↔ ∀ i, t ≤ i → i < t + f → O i = some (q + (i - a))
  | 0, t => ⟨fun _ i h1 h2 => by omega, fun _ => rfl⟩
  | f + 1, t => by
    unfold oRun
    rw [Bool.and_eq_true, oRun_iff f (t + 1), decide_eq_true_eq]
    constructor
    · rintro ⟨h1, h2⟩ i i1 i2
      by_cases hi : i = t
      · subst hi; exact h1
      · exact h2 i (by omega) (by omega)
    · intro hh
      exact ⟨hh t (Nat.le_refl _) (by omega), fun i i1 i2 => hh i (by omega) (by omega)⟩
theorem of_cond (h : tsOk e ts) (h' : tsOk e' ts') {a z q q' : Nat} (haz : a ≤ z) (hz : z < ts'.length) (hq : q ≤ q') (hq' : q' < ts.length) : (decide (q' - q = z - a) && mRun (fun j => imV p g w ts' (tk ts j)) a q (q' + 1 - q) q) = true ↔ (eO p g w ts ts' a = some q ∧ oRun (eO p g w ts ts') q a (z - a) (a + 1) = true ∧ q' = q + (z - a)) := by
  rw [Bool.and_eq_true, decide_eq_true_eq, mRun_iff, oRun_iff]
  constructor
  · rintro ⟨h1, h2⟩
    have key : ∀ s, s ≤ z - a → eO p g w ts ts' (a + s) = some (q + s) := fun s hs => by
      have := h2 (q + s) (by omega) (by omega)
      have h3 : imV p g w ts' (tk ts (q + s)) = nI (a + s) := by rw [show a + s = a + (q + s) - q by omega]; exact this
      exact (im_O h h' (by omega) (by omega)).mp h3
    refine ⟨by have := key 0 (by omega); simpa using this, fun i i1 i2 => ?_, by omega⟩
    have := key (i - a) (by omega)
    rw [show a + (i - a) = i by omega] at this
    exact this
  · rintro ⟨h1, h2, h3⟩
    refine ⟨by omega, fun i i1 i2 => ?_⟩
    show imV p g w ts' (tk ts i) = nI (a + i - q)
    rw [im_O h h' (by omega) (by omega)]
    by_cases hi : i = q
    · rw [hi, show a + q - q = a by omega]; exact h1
    · have := h2 (a + i - q) (by omega) (by omega)
      rw [this]; congr 1; omega
theorem mOf_oItem (h : tsOk e ts) (h' : tsOk e' ts') {a z c0 : Nat} {fi0 la0 : Nat → Nat} (haz : a ≤ z) (hz : z < ts'.length) (hO : ∀ j, j < c0 → fi0 j ≤ la0 j ∧ la0 j < ts.length) : mOf (fun j => imV p g w ts' (tk ts j)) fi0 la0 a z c0 0 = oItem (eO p g w ts ts') fi0 la0 c0 a z := by
  have key : ∀ (f j : Nat), j + f ≤ c0 → mOf (fun j => imV p g w ts' (tk ts j)) fi0 la0 a z f j = match eO p g w ts ts' a with
      | none => -1
      | some q => if oRun (eO p g w ts ts') q a (z - a) (a + 1) = true then tFi fi0 la0 q (q + (z - a)) f j else -1 := by
    intro f
    induction f with
    | zero =>
      intro j hj
      rw [mOf]
      cases eO p g w ts ts' a with
      | none => rfl
      | some q => simp [tFi]
    | succ f ih =>
      intro j hj
      rw [mOf, ih (j + 1) (by omega)]
      have hc := of_cond (p := p) (g := g) (w := w) h h' haz hz (hO j (by omega)).1 (hO j (by omega)).2
      by_cases hd : (decide (la0 j - fi0 j = z - a) && mRun (fun j => imV p g w ts' (tk ts j)) a (fi0 j) (la0 j + 1 - fi0 j) (fi0 j)) = true
      · rw [if_pos hd]
        obtain ⟨c1, c2, c3⟩ := hc.mp hd
        rw [c1]
        show _ = if oRun (eO p g w ts ts') (fi0 j) a (z - a) (a + 1) = true then tFi fi0 la0 (fi0 j) (fi0 j + (z - a)) (f + 1) j else -1
        rw [if_pos c2, tFi, if_pos ⟨rfl, c3⟩]
      · rw [if_neg hd]
        cases hO' : eO p g w ts ts' a with
        | none => rfl
        | some q =>
          show (if oRun (eO p g w ts ts') q a (z - a) (a + 1) = true then tFi fi0 la0 q (q + (z - a)) f (j + 1) else -1) = if oRun (eO p g w ts ts') q a (z - a) (a + 1) = true then tFi fi0 la0 q (q + (z - a)) (f + 1) j else -1
          by_cases hr : oRun (eO p g w ts ts') q a (z - a) (a + 1) = true
          · rw [if_pos hr, if_pos hr, tFi, if_neg (fun hh => hd (hc.mpr ⟨by rw [hO', hh.1], by rw [hh.1]; exact hr, by rw [hh.1]; exact hh.2⟩))]
          · rw [if_neg hr, if_neg hr]
  rw [key c0 0 (by omega)]
  rfl
theorem tFi_in2 {fi la : Nat → Nat} {a z : Nat} : ∀ (f k : Nat), tFi fi la a z f k = -1 ∨ ∃ j, k ≤ j ∧ j < k + f ∧ tFi fi la a z f k = nI j ∧ fi j = a ∧ la j = z
  | 0, k => Or.inl rfl
  | f + 1, k => by
    unfold tFi
    by_cases hc : fi k = a ∧ la k = z
    · rw [if_pos hc]; exact Or.inr ⟨k, Nat.le_refl _, by omega, rfl, hc⟩
    · rw [if_neg hc]
      rcases tFi_in2 (fi := fi) (la := la) (a := a) (z := z) f (k + 1) with h1 | ⟨j, j1, j2, j3, j4⟩
      · exact Or.inl h1
      · exact Or.inr ⟨j, by omega, by omega, j3, j4⟩
/-- the old item of the tokens a to z begins where a was -/
theorem oItem_in2 {O : Nat → Option Nat} {fi0 la0 : Nat → Nat} {c0 a z : Nat} : oItem O fi0 la0 c0 a z = -1 ∨ ∃ j, j < c0 ∧ oItem O fi0 la0 c0 a z = nI j ∧ O a = some (fi0 j) := by
  unfold oItem
  cases hO : O a with
  | none => exact Or.inl rfl
  | some q =>
    show (if oRun O q a (z - a) (a + 1) = true then tFi fi0 la0 q (q + (z - a)) c0 0 else -1) = -1 ∨ ∃ j, j < c0 ∧ (if oRun O q a (z - a) (a + 1) = true then tFi fi0 la0 q (q + (z - a)) c0 0 else -1) = nI j ∧ some q = some (fi0 j)
    by_cases hr : oRun O q a (z - a) (a + 1) = true
    · rw [if_pos hr]
      rcases tFi_in2 (fi := fi0) (la := la0) (a := q) (z := q + (z - a)) c0 0 with h1 | ⟨j, j1, j2, j3, j4, j5⟩
      · exact Or.inl h1
      · exact Or.inr ⟨j, by omega, j3, by rw [j4]⟩
    · rw [if_neg hr]; exact Or.inl rfl
end
/- numbers -/
theorem nGo_cg {oi oi' num0 num0' : Nat → Int32} : ∀ (f k : Nat) (x x' : Nat × Nat × (Nat → Int32)), (∀ i, k ≤ i → i < k + f → oi i = oi' i ∧ (oi i ≠ -1 → num0 (oi i).toNatClampNeg = num0' (oi i).toNatClampNeg)) → x.1 = x'.1 → x.2.1 = x'.2.1 → (∀ i, i < k → x.2.2 i = x'.2.2 i) → (nGo oi num0 f k x).1 = (nGo oi' num0' f k x').1 ∧ (nGo oi num0 f k x).2.1 = (nGo oi' num0' f k x').2.1 ∧ ∀ i, i < k + f → (nGo oi num0 f k x).2.2 i = (nGo oi' num0' f k x').2.2 i
  | 0, k, x, x', _, h1, h2, h3 => ⟨h1, h2, h3⟩
  | f + 1, k, x, x', h, h1, h2, h3 => by
    obtain ⟨c1, c2⟩ := h k (Nat.le_refl _) (by omega)
    unfold nGo
    have hstep : ∀ (y y' : Nat × Nat × (Nat → Int32)), y.1 = y'.1 → y.2.1 = y'.2.1 → (∀ i, i < k + 1 → y.2.2 i = y'.2.2 i) → (nGo oi num0 f (k + 1) y).1 = (nGo oi' num0' f (k + 1) y').1 ∧ (nGo oi num0 f (k + 1) y).2.1 = (nGo oi' num0' f (k + 1) y').2.1 ∧ ∀ i, i < k + (f + 1) → (nGo oi num0 f (k + 1) y).2.2 i = (nGo oi' num0' f (k + 1) y').2.2 i := by
      intro y y' y1 y2 y3
      have := nGo_cg f (k + 1) y y' (fun i i1 i2 => h i (by omega) (by omega)) y1 y2 y3
      exact ⟨this.1, this.2.1, fun i hi => this.2.2 i (by omega)⟩
    rw [← c1]
    by_cases hc : oi k = -1
    · rw [if_pos hc, if_pos hc]
      refine hstep _ _ h1 (by show x.2.1 + 1 = x'.2.1 + 1; rw [h2]) (fun i hi => ?_)
      show upd x.2.2 k (nI x.2.1) i = upd x'.2.2 k (nI x'.2.1) i
      by_cases hik : i = k
      · subst hik; simp [upd, h2]
      · simp only [upd, if_neg hik]; exact h3 i (by omega)
    · rw [if_neg hc, if_neg hc]
      refine hstep _ _ (by show x.1 + 1 = x'.1 + 1; rw [h1]) h2 (fun i hi => ?_)
      show upd x.2.2 k (num0 (oi k).toNatClampNeg) i = upd x'.2.2 k (num0' (oi k).toNatClampNeg) i
      by_cases hik : i = k
      · subst hik; simp [upd, c2 hc]
      · simp only [upd, if_neg hik]; exact h3 i (by omega)
def nInv (oi num0 : Nat → Int32) (gi k : Nat) (x : Nat × Nat × (Nat → Int32)) : Prop := gi ≤ x.2.1 ∧ x.2.1 ≤ gi + k ∧ (∀ i, i < k → (oi i = -1 → ∃ m, gi ≤ m ∧ m < x.2.1 ∧ x.2.2 i = nI m) ∧ (oi i ≠ -1 → x.2.2 i = num0 (oi i).toNatClampNeg)) ∧ ∀ i j, i < j → j < k → oi i = -1 → oi j = -1 → x.2.2 i ≠ x.2.2 j
theorem nGo_inv {oi num0 : Nat → Int32} {gi : Nat} : ∀ (f k : Nat) (x : Nat × Nat × (Nat → Int32)), gi + k + f < 2 ^ 31 → nInv oi num0 gi k x → nInv oi num0 gi (k + f) (nGo oi num0 f k x)
  | 0, k, x, _, h => h
  | f + 1, k, x, hb, ⟨a1, a2, a3, a4⟩ => by
    unfold nGo
    rw [show k + (f + 1) = k + 1 + f by omega]
    by_cases hc : oi k = -1
    · rw [if_pos hc]
      refine nGo_inv f (k + 1) _ (by omega) ⟨by show gi ≤ x.2.1 + 1; omega, by show x.2.1 + 1 ≤ _; omega, fun i hi => ?_, fun i j hij hj hi2 hj2 => ?_⟩
      · show (oi i = -1 → ∃ m, gi ≤ m ∧ m < x.2.1 + 1 ∧ upd x.2.2 k (nI x.2.1) i = nI m) ∧ (oi i ≠ -1 → upd x.2.2 k (nI x.2.1) i = _)
        by_cases hik : i = k
        · subst hik
          exact ⟨fun _ => ⟨x.2.1, a1, by omega, by simp [upd]⟩, fun hh => absurd hc hh⟩
        · simp only [upd, if_neg hik]
          refine ⟨fun hh => ?_, (a3 i (by omega)).2⟩
          obtain ⟨m, m1, m2, m3⟩ := (a3 i (by omega)).1 hh
          exact ⟨m, m1, by omega, m3⟩
      · show upd x.2.2 k (nI x.2.1) i ≠ upd x.2.2 k (nI x.2.1) j
        have hik : i ≠ k := by omega
        by_cases hjk : j = k
        · subst hjk
          simp only [upd, if_neg hik, if_true]
          obtain ⟨m, m1, m2, m3⟩ := (a3 i (by omega)).1 hi2
          rw [m3]
          intro hh
          rw [nI_eq (by omega) (by omega)] at hh
          omega
        · simp only [upd, if_neg hik, if_neg hjk]
          exact a4 i j hij (by omega) hi2 hj2
    · rw [if_neg hc]
      refine nGo_inv f (k + 1) _ (by omega) ⟨a1, by show x.2.1 ≤ _; omega, fun i hi => ?_, fun i j hij hj hi2 hj2 => ?_⟩
      · show (oi i = -1 → ∃ m, gi ≤ m ∧ m < x.2.1 ∧ upd x.2.2 k (num0 (oi k).toNatClampNeg) i = nI m) ∧ (oi i ≠ -1 → upd x.2.2 k (num0 (oi k).toNatClampNeg) i = _)
        by_cases hik : i = k
        · subst hik
          exact ⟨fun hh => absurd hh hc, fun _ => by simp [upd]⟩
        · simp only [upd, if_neg hik]
          exact a3 i (by omega)
      · show upd x.2.2 k (num0 (oi k).toNatClampNeg) i ≠ upd x.2.2 k (num0 (oi k).toNatClampNeg) j
        have hik : i ≠ k := fun hh => hc (by rw [← hh]; exact hi2)
        have hjk : j ≠ k := fun hh => hc (by rw [← hh]; exact hj2)
        simp only [upd, if_neg hik, if_neg hjk]
        exact a4 i j hij (by omega) hi2 hj2
/-- numbers: each given once, all below gi -/
def nuOk (nu : Nat → Int32) (C gi : Nat) : Prop := (∀ k, k < C → ∃ m, m < gi ∧ nu k = nI m) ∧ ∀ i j, i < j → j < C → nu i ≠ nu j
theorem nGo_ok {oi num0 N0 : Nat → Int32} {C c0 gi : Nat} (hb : gi + C < 2 ^ 31) (h0 : nuOk num0 c0 gi) (hoi : ∀ k, k < C → oi k = -1 ∨ ∃ j, j < c0 ∧ oi k = nI j) (hc0 : c0 ≤ 160) (hinj : ∀ i j, i < j → j < C → oi i ≠ -1 → oi i ≠ oi j) : nuOk (nGo oi num0 C 0 (0, gi, N0)).2.2 C (nGo oi num0 C 0 (0, gi, N0)).2.1 ∧ (nGo oi num0 C 0 (0, gi, N0)).2.1 ≤ gi + C := by
  have h := nGo_inv (oi := oi) (num0 := num0) (gi := gi) C 0 (0, gi, N0) (by omega) ⟨Nat.le_refl _, by show gi ≤ gi + 0; omega, fun i hi => by omega, fun i j _ hj => by omega⟩
  rw [Nat.zero_add] at h
  generalize nGo oi num0 C 0 (0, gi, N0) = x at h ⊢
  obtain ⟨a1, a2, a3, a4⟩ := h
  have hold : ∀ k, k < C → oi k ≠ -1 → ∃ j m, j < c0 ∧ oi k = nI j ∧ m < gi ∧ num0 j = nI m ∧ x.2.2 k = nI m := fun k hk hne => by
    rcases hoi k hk with h1 | ⟨j, j1, j2⟩
    · exact absurd h1 hne
    · obtain ⟨m, m1, m2⟩ := h0.1 j j1
      have h3 := (a3 k hk).2 hne
      rw [j2, nI_clamp (by omega)] at h3
      exact ⟨j, m, j1, j2, m1, m2, h3.trans m2⟩
  refine ⟨⟨fun k hk => ?_, fun i j hij hj => ?_⟩, a2⟩
  · by_cases hc : oi k = -1
    · obtain ⟨m, m1, m2, m3⟩ := (a3 k hk).1 hc
      exact ⟨m, m2, m3⟩
    · obtain ⟨j, m, -, -, m1, -, m3⟩ := hold k hk hc
      exact ⟨m, by omega, m3⟩
  · by_cases hi1 : oi i = -1
    · by_cases hj1 : oi j = -1
      · exact a4 i j hij hj hi1 hj1
      · obtain ⟨m, m1, m2, m3⟩ := (a3 i (by omega)).1 hi1
        obtain ⟨j', m', -, -, m1', -, m3'⟩ := hold j hj hj1
        rw [m3, m3']
        intro hh
        rw [nI_eq (by omega) (by omega)] at hh
        omega
    · obtain ⟨i', m, i1, i2, m1, m2, m3⟩ := hold i (by omega) hi1
      by_cases hj1 : oi j = -1
      · obtain ⟨m', m1', m2', m3'⟩ := (a3 j hj).1 hj1
        rw [m3, m3']
        intro hh
        rw [nI_eq (by omega) (by omega)] at hh
        omega
      · obtain ⟨j', m', j1, j2, m1', m2', m3'⟩ := hold j hj hj1
        have hne : i' ≠ j' := fun hh => hinj i j hij hj hi1 (by rw [i2, j2, hh])
        rw [m3, m3', ← m2, ← m2']
        rcases Nat.lt_or_gt_of_ne hne with hl | hl
        · exact h0.2 i' j' hl j1
        · exact fun hh => h0.2 j' i' hl i1 hh.symm
/-- the first and the last hit are one -/
theorem wh_eq {nu nu' : Nat → Int32} {x : Int32} {C : Nat} (hc : ∀ k, k < C → nu k = nu' k) (hd : ∀ i j, i < j → j < C → nu i ≠ nu j) : tNu nu x C 0 = mWh nu' x C 0 (-1) := by
  have hmiss : ∀ (f k : Nat) (y : Int32), (∀ i, k ≤ i → i < k + f → nu' i ≠ x) → mWh nu' x f k y = y := by
    intro f
    induction f with
    | zero => intro k y _; rfl
    | succ f ih =>
      intro k y h
      rw [mWh, if_neg (h k (Nat.le_refl _) (by omega)), ih (k + 1) y (fun i i1 i2 => h i (by omega) (by omega))]
  have key : ∀ (f k : Nat), k + f = C → tNu nu x f k = mWh nu' x f k (-1) := by
    intro f
    induction f with
    | zero => intro k _; rfl
    | succ f ih =>
      intro k hk
      rw [tNu, mWh, ← hc k (by omega)]
      by_cases hx : nu k = x
      · rw [if_pos hx, if_pos hx, hmiss f (k + 1) _ (fun i i1 i2 hh => hd k i (by omega) (by omega) (by rw [hx, hc i (by omega), hh]))]
      · rw [if_neg hx, if_neg hx]
        exact ih (k + 1) (by omega)
  exact key C 0 (by omega)
