/- the reference: the automaton's state in memory; is, top, push, whole, start, finish (rows laid by program) -/
/-- state and what is open -/
def AQ (M : zM) (q : Nat × List Nat) : Prop := M.1 25 32 = nI q.1 ∧ M.1 25 30 = nI q.2.length ∧ q.2.length ≤ 12 ∧ (∀ i, i < q.2.length → M.1 45 i = nI (q.2.reverse.getD i 0)) ∧ ∀ x ∈ q.2, x < 6
/-- open braces, begun, items, the item; first, last, levels, braced, defines -/
abbrev aB : Type := (List Nat × Nat × Nat × Nat) × (Nat → Int32) × (Nat → Int32) × (Nat → Int32) × (Nat → Int32) × (Nat → Int32)
def AB (M : zM) (B : aB) : Prop := M.1 25 33 = nI B.1.1.length ∧ (∀ i, i < B.1.1.length → M.1 46 i = nI (B.1.1.reverse.getD i 0)) ∧ M.1 25 15 = nI B.1.2.1 ∧ M.1 25 14 = nI B.1.2.2.1 ∧ M.1 25 35 = nI B.1.2.2.2 ∧ M.1 35 = B.2.1 ∧ M.1 36 = B.2.2.1 ∧ M.1 37 = B.2.2.2.1 ∧ M.1 38 = B.2.2.2.2.1 ∧ M.1 39 = B.2.2.2.2.2
def sAQ : Nat → Nat → Prop := fun o i => (o = 25 ∧ (i = 30 ∨ i = 32)) ∨ o = 45
def sAB : Nat → Nat → Prop := fun o i => (o = 25 ∧ (i = 30 ∨ i = 32 ∨ i = 33 ∨ i = 14 ∨ i = 15 ∨ i = 35)) ∨ o = 45 ∨ o = 46 ∨ o = 35 ∨ o = 36 ∨ o = 37 ∨ o = 38 ∨ o = 39
/-- the reference's tokens, and that a sign is a sign -/
def MTk (M : zM) (e : Nat) (t : Nat → Nat) (ts : List (Nat × Nat × Nat)) : Prop := TxM M t e ∧ TkM M ts ∧ tsOk e ts ∧ ∀ k, k < ts.length → (tk ts k).2.2 = 3 → lSig (t (tk ts k).1) = true
theorem zSame.AB {M M' : zM} {B : aB} (h : zSame sAQ M M') (hB : AB M B) : AB M' B := by
  obtain ⟨h1, h2, h3, h4, h5, h6, h7, h8, h9, h10⟩ := hB
  exact ⟨(h.2 _ _ (by unfold sAQ; omega)).trans h1, fun i hi => (h.2 _ _ (by unfold sAQ; omega)).trans (h2 i hi), (h.2 _ _ (by unfold sAQ; omega)).trans h3, (h.2 _ _ (by unfold sAQ; omega)).trans h4, (h.2 _ _ (by unfold sAQ; omega)).trans h5, (funext fun i => h.2 _ _ (by unfold sAQ; omega)).trans h6, (funext fun i => h.2 _ _ (by unfold sAQ; omega)).trans h7, (funext fun i => h.2 _ _ (by unfold sAQ; omega)).trans h8, (funext fun i => h.2 _ _ (by unfold sAQ; omega)).trans h9, (funext fun i => h.2 _ _ (by unfold sAQ; omega)).trans h10⟩
theorem zSame.MTk {M M' : zM} {e : Nat} {t : Nat → Nat} {ts : List (Nat × Nat × Nat)} (h : zSame sAB M M') (hk : MTk M e t ts) : MTk M' e t ts := by
  obtain ⟨hT, hk, ho, hs⟩ := hk
  exact ⟨⟨(h.2 _ _ (by unfold sAB; omega)).trans hT.1, hT.2.1, fun i hi => ⟨(h.2 _ _ (by unfold sAB; omega)).trans (hT.2.2 i hi).1, (hT.2.2 i hi).2⟩⟩, ⟨(h.2 _ _ (by unfold sAB; omega)).trans hk.1, fun k q hq => ⟨(h.2 _ _ (by unfold sAB; omega)).trans (hk.2 k q hq).1, (h.2 _ _ (by unfold sAB; omega)).trans (hk.2 k q hq).2.1, (h.2 _ _ (by unfold sAB; omega)).trans (hk.2 k q hq).2.2⟩⟩, ho, hs⟩
theorem zSame.up {M M' : zM} (h : zSame sAQ M M') : zSame sAB M M' := h.weak (fun o i hh => by unfold sAQ at hh; unfold sAB; omega)
theorem lMk_sig {c x k : Nat} (hx : lSig x = true) (hc : k < 5) (hs : k = 3 → lSig c = true) : (k = 3 ∧ c = x) ↔ lMk k c = x := by
  simp [lSig] at hx
  unfold lMk
  rcases (show k = 0 ∨ k = 1 ∨ k = 2 ∨ k = 3 ∨ k = 4 by omega) with rfl | rfl | rfl | rfl | rfl <;> simp <;> omega
theorem lMk_kind {c k j m : Nat} (hj : (j = 0 ∧ m = 97) ∨ (j = 1 ∧ m = 48) ∨ (j = 2 ∧ m = 34)) (hc : k < 5) (hs : k = 3 → lSig c = true) : k = j ↔ lMk k c = m := by
  unfold lMk
  rcases (show k = 0 ∨ k = 1 ∨ k = 2 ∨ k = 3 ∨ k = 4 by omega) with rfl | rfl | rfl | rfl | rfl
  · simp; omega
  · simp; omega
  · simp; omega
  · have := hs rfl
    simp [lSig] at this
    simp; omega
  · simp; omega
section
variable {Lx : Nat} {xs : Nat → Int32} {d : Nat} {M : zM} {n b : Nat}
set_option maxRecDepth 100000 in
set_option maxHeartbeats 4000000 in
theorem r_is {e k c : Nat} {t : Nat → Nat} {ts : List (Nat × Nat × Nat)} (hP : M.2.1 = zP0 n b) (hk : MTk M e t ts) (hk2 : k < ts.length) (hc : lSig c = true) : Pu Lx xs d mM_is [.ref 25, .int (nI k), .int (nI c)] M (nI (decide (tMk t ts k = c)).toNat) := by
  unfold Pu Ct
  have hc2 : c < 128 := by simp [lSig] at hc; omega
  have he := hk.1.2.1
  have hlen := hk.2.2.1.2.1
  obtain ⟨hq1, hq2, hq3⟩ := hk.2.1.2 k _ (tk_at hk2)
  have hin := tV_in hk.2.2.1 hk2
  have hpl : (tk ts k).1 < e := by omega
  have hkd : (tk ts k).2.2 < 5 := by have := hk.2.2.1.2.2.1 k _ (tk_at hk2); omega
  refine ev_al dM_is_0 rfl (by first | assumption | rfl) ?_
  refine ev_getrP dM_is_1 fM_23 rfl (zq (q := 30) hP rfl) ?_
  refine ev_il dM_is_4 rfl (by first | assumption | rfl) ?_
  refine ev_aldN dM_is_5 rfl rfl (by omega) ?_
  rw [hq3]
  refine ev_const (v := nI 3) dM_is_6 (by decide) ?_
  refine ev_icmp (tgt := 29) dM_is_7 (by decide) (fun h7 => ?_) (fun h7 => ?_)
  · try simp (disch := omega) only [zcond, nI_ltI, nI_leI, nI_eq, zb0, Classical.not_not, Bool.not_eq_false, Bool.not_eq_true, Nat.not_lt, Nat.not_le] at h7
    refine ev_const (v := nI 0) dM_is_29 (by decide) ?_
    refine ev_ret dM_is_30 rfl rfl ?_
    first
    | exact ⟨zbt (decide_eq_true ((lMk_sig hc hkd (hk.2.2.2 k hk2)).mp ⟨h7, h22⟩)), rfl⟩
    | exact ⟨zbf (decide_eq_false (fun h => h7 ((lMk_sig hc hkd (hk.2.2.2 k hk2)).mpr h).1)), rfl⟩
    | exact ⟨zbf (decide_eq_false (fun h => h22 ((lMk_sig hc hkd (hk.2.2.2 k hk2)).mpr h).2)), rfl⟩
  · try simp (disch := omega) only [zcond, nI_ltI, nI_leI, nI_eq, zb0, Classical.not_not, Bool.not_eq_false, Bool.not_eq_true, Nat.not_lt, Nat.not_le] at h7
    refine ev_al dM_is_10 rfl (by first | assumption | rfl) ?_
    refine ev_getrP dM_is_11 fM_7 rfl (zq (q := 26) hP rfl) ?_
    refine ev_al dM_is_14 rfl (by first | assumption | rfl) ?_
    refine ev_getrP dM_is_15 fM_16 rfl (zq (q := 28) hP rfl) ?_
    refine ev_il dM_is_18 rfl (by first | assumption | rfl) ?_
    refine ev_aldN dM_is_19 rfl rfl (by omega) ?_
    rw [hq1]
    refine ev_aldN dM_is_20 rfl rfl (by omega) ?_
    rw [(hk.1.2.2 _ hpl).1]
    have htp := (hk.1.2.2 _ hpl).2
    refine ev_il dM_is_21 rfl (by first | assumption | rfl) ?_
    refine ev_icmp (tgt := 29) dM_is_22 (by decide) (fun h22 => ?_) (fun h22 => ?_)
    · try simp (disch := omega) only [zcond, nI_ltI, nI_leI, nI_eq, zb0, Classical.not_not, Bool.not_eq_false, Bool.not_eq_true, Nat.not_lt, Nat.not_le] at h22
      refine ev_const (v := nI 0) dM_is_29 (by decide) ?_
      refine ev_ret dM_is_30 rfl rfl ?_
      first
      | exact ⟨zbt (decide_eq_true ((lMk_sig hc hkd (hk.2.2.2 k hk2)).mp ⟨h7, h22⟩)), rfl⟩
      | exact ⟨zbf (decide_eq_false (fun h => h7 ((lMk_sig hc hkd (hk.2.2.2 k hk2)).mpr h).1)), rfl⟩
      | exact ⟨zbf (decide_eq_false (fun h => h22 ((lMk_sig hc hkd (hk.2.2.2 k hk2)).mpr h).2)), rfl⟩
    · try simp (disch := omega) only [zcond, nI_ltI, nI_leI, nI_eq, zb0, Classical.not_not, Bool.not_eq_false, Bool.not_eq_true, Nat.not_lt, Nat.not_le] at h22
      refine ev_const (v := nI 1) dM_is_25 (by decide) ?_
      refine ev_goto (tgt := 30) dM_is_26 (by decide) ?_
      refine ev_ret dM_is_30 rfl rfl ?_
      first
      | exact ⟨zbt (decide_eq_true ((lMk_sig hc hkd (hk.2.2.2 k hk2)).mp ⟨h7, h22⟩)), rfl⟩
      | exact ⟨zbf (decide_eq_false (fun h => h7 ((lMk_sig hc hkd (hk.2.2.2 k hk2)).mpr h).1)), rfl⟩
      | exact ⟨zbf (decide_eq_false (fun h => h22 ((lMk_sig hc hkd (hk.2.2.2 k hk2)).mpr h).2)), rfl⟩
theorem rev_top {o : List Nat} (h : 0 < o.length) : o.reverse.getD (o.length - 1) 0 = aTop o := by
  cases o with
  | nil => simp at h
  | cons a o => simp [aTop, List.getD_eq_getElem?_getD]
theorem rev_cons {o : List Nat} {x i : Nat} (h : i < o.length) : (x :: o).reverse.getD i 0 = o.reverse.getD i 0 := by
  rw [List.reverse_cons, List.getD_eq_getElem?_getD, List.getD_eq_getElem?_getD, List.getElem?_append_left (by simpa using h)]
theorem rev_last {o : List Nat} {x : Nat} : (x :: o).reverse.getD o.length 0 = x := by
  rw [List.reverse_cons, List.getD_eq_getElem?_getD, List.getElem?_append_right (by simp)]; simp
set_option maxRecDepth 100000 in
set_option maxHeartbeats 4000000 in
theorem r_top {q : Nat × List Nat} (hP : M.2.1 = zP0 n b) (hq : AQ M q) : Pu Lx xs d mM_top [.ref 25] M (nI (aTop q.2)) := by
  unfold Pu Ct
  have hl := hq.2.2.1
  refine ev_al dM_top_0 rfl (by first | assumption | rfl) ?_
  refine ev_geti dM_top_1 fM_127 rfl ?_
  rw [hq.2.1]
  refine ev_if0 (tgt := 11) dM_top_4 (by decide) (fun h4 => ?_) (fun h4 => ?_)
  · try simp (disch := omega) only [zcond, nI_ltI, nI_leI, nI_eq, zb0, Classical.not_not, Bool.not_eq_false, Bool.not_eq_true, Nat.not_lt, Nat.not_le] at h4
    refine ev_al dM_top_11 rfl (by first | assumption | rfl) ?_
    refine ev_getrP dM_top_12 fM_73 rfl (zq (q := 45) hP rfl) ?_
    refine ev_al dM_top_15 rfl (by first | assumption | rfl) ?_
    refine ev_geti dM_top_16 fM_127 rfl ?_
    rw [hq.2.1]
    refine ev_const (v := nI 1) dM_top_19 (by decide) ?_
    first | with_reducible refine ev_subN dM_top_20 (by omega) ?_ | refine ev_sub dM_top_20 ?_
    refine ev_aldN dM_top_21 rfl rfl (by omega) ?_
    try rw [hq.2.2.2.1 _ (by omega)]
    refine ev_ret dM_top_22 rfl rfl ?_
    first
    | (rw [show q.2 = [] from List.length_eq_zero_iff.mp h4]; exact ⟨rfl, rfl⟩)
    | exact ⟨by rw [rev_top (by omega)], rfl⟩
  · try simp (disch := omega) only [zcond, nI_ltI, nI_leI, nI_eq, zb0, Classical.not_not, Bool.not_eq_false, Bool.not_eq_true, Nat.not_lt, Nat.not_le] at h4
    refine ev_const (v := nI 0) dM_top_7 (by decide) ?_
    refine ev_goto (tgt := 22) dM_top_8 (by decide) ?_
    try rw [hq.2.2.2.1 _ (by omega)]
    refine ev_ret dM_top_22 rfl rfl ?_
    first
    | (rw [show q.2 = [] from List.length_eq_zero_iff.mp h4]; exact ⟨rfl, rfl⟩)
    | exact ⟨by rw [rev_top (by omega)], rfl⟩
theorem AQ.push {q : Nat × List Nat} {x : Nat} (hq : AQ M q) (h : q.2.length ≠ 12) (hx : x < 6) : AQ (zI (zI M 45 q.2.length (nI x)) 25 30 (nI (q.2.length + 1))) (q.1, x :: q.2) := by
  obtain ⟨h1, h2, h3, h4, h5⟩ := hq
  refine ⟨(zI_k (by omega)).trans ((zI_o (by omega)).trans h1), zI_s _ _ _ _, ?_, fun i hi => ?_, fun y hy => ?_⟩
  · show q.2.length + 1 ≤ 12; omega
  · have hi : i < q.2.length + 1 := hi
    rw [zI_o (by omega)]
    by_cases hil : i = q.2.length
    · subst hil; rw [zI_s]; show nI x = nI ((x :: q.2).reverse.getD q.2.length 0); rw [rev_last]
    · rw [zI_k hil, h4 i (by omega)]; show _ = nI ((x :: q.2).reverse.getD i 0); rw [rev_cons (by omega)]
  · rcases List.mem_cons.mp hy with rfl | hy
    · exact hx
    · exact h5 y hy
theorem AQ.st {q : Nat × List Nat} {x : Nat} (hq : AQ M q) : AQ (zI M 25 32 (nI x)) (x, q.2) :=
  ⟨zI_s _ _ _ _, (zI_k (by omega)).trans hq.2.1, hq.2.2.1, fun i hi => (zI_o (by omega)).trans (hq.2.2.2.1 i hi), hq.2.2.2.2⟩
theorem AQ.pop {a x : Nat} {o : List Nat} (hq : AQ M (a, x :: o)) : AQ (zI M 25 30 (nI o.length)) (a, o) := by
  obtain ⟨h1, h2, h3, h4, h5⟩ := hq
  refine ⟨(zI_k (by omega)).trans h1, zI_s _ _ _ _, by simp at h3; show o.length ≤ 12; omega, fun i hi => ?_, fun y hy => h5 y (List.mem_cons_of_mem _ hy)⟩
  have hi : i < o.length := hi
  rw [zI_o (by omega), h4 i (by show i < o.length + 1; omega)]
  show nI ((x :: o).reverse.getD i 0) = nI (o.reverse.getD i 0)
  rw [rev_cons hi]
set_option maxRecDepth 100000 in
set_option maxHeartbeats 4000000 in
theorem r_push_y {q : Nat × List Nat} {x : Nat} (hP : M.2.1 = zP0 n b) (hq : AQ M q) (h : q.2.length ≠ 12) : Ct Lx xs d mM_push [.ref 25, .int (nI x)] M (fun z M' => z = some (nI 1) ∧ M' = zI (zI M 45 q.2.length (nI x)) 25 30 (nI (q.2.length + 1))) := by
  unfold Ct
  have hl := hq.2.2.1
  refine ev_al dM_push_0 rfl (by first | assumption | rfl) ?_
  refine ev_geti dM_push_1 fM_127 rfl ?_
  rw [hq.2.1]
  refine ev_const (v := nI 12) dM_push_4 (by decide) ?_
  refine ev_icmp (tgt := 11) dM_push_6 (by decide) (fun h6 => ?_) (fun h6 => ?_)
  · try simp (disch := omega) only [zcond, nI_ltI, nI_leI, nI_eq, zb0, Classical.not_not, Bool.not_eq_false, Bool.not_eq_true, Nat.not_lt, Nat.not_le] at h6
    refine ev_al dM_push_11 rfl (by first | assumption | rfl) ?_
    refine ev_getrP dM_push_12 fM_73 rfl (zq (q := 45) hP rfl) ?_
    refine ev_al dM_push_15 rfl (by first | assumption | rfl) ?_
    refine ev_geti dM_push_16 fM_127 rfl ?_
    rw [hq.2.1]
    refine ev_il dM_push_19 rfl (by first | assumption | rfl) ?_
    refine ev_iastN dM_push_20 rfl (by omega) ?_
    refine ev_al dM_push_21 rfl (by first | assumption | rfl) ?_
    refine ev_stk dM_push_22 rfl ?_
    refine ev_geti dM_push_23 fM_127 rfl ?_
    rw [show (zI M 45 q.2.length (nI x)).1 25 30 = nI q.2.length from (zI_o (by omega)).trans hq.2.1]
    refine ev_const (v := nI 1) dM_push_26 (by decide) ?_
    first | with_reducible refine ev_addN dM_push_27 ?_ | refine ev_add dM_push_27 ?_
    refine ev_puti dM_push_28 fM_127 fwM_open rfl (vp_nar_int _) rfl ?_
    refine ev_const (v := nI 1) dM_push_31 (by decide) ?_
    refine ev_ret dM_push_32 rfl rfl ?_
    exact ⟨rfl, rfl⟩
  · first | omega | (simp (disch := omega) only [zcond, nI_ltI, nI_leI, nI_eq] at h6; omega)
set_option maxRecDepth 100000 in
set_option maxHeartbeats 4000000 in
theorem r_push_n {q : Nat × List Nat} {x : Nat} (hP : M.2.1 = zP0 n b) (hq : AQ M q) (h : q.2.length = 12) : Pu Lx xs d mM_push [.ref 25, .int (nI x)] M (nI 0) := by
  unfold Pu Ct
  have hl := hq.2.2.1
  refine ev_al dM_push_0 rfl (by first | assumption | rfl) ?_
  refine ev_geti dM_push_1 fM_127 rfl ?_
  rw [hq.2.1]
  refine ev_const (v := nI 12) dM_push_4 (by decide) ?_
  refine ev_icmp (tgt := 11) dM_push_6 (by decide) (fun h6 => ?_) (fun h6 => ?_)
  · first | omega | (simp (disch := omega) only [zcond, nI_ltI, nI_leI, nI_eq] at h6; omega)
  · try simp (disch := omega) only [zcond, nI_ltI, nI_leI, nI_eq, zb0, Classical.not_not, Bool.not_eq_false, Bool.not_eq_true, Nat.not_lt, Nat.not_le] at h6
    refine ev_const (v := nI 0) dM_push_9 (by decide) ?_
    refine ev_ret dM_push_10 rfl rfl ?_
    exact ⟨rfl, rfl⟩
set_option maxRecDepth 100000 in
set_option maxHeartbeats 4000000 in
theorem r_wholeL {a : Nat} {R : Option Int32 → zM → Prop} : ∀ (o : List Nat) (M : zM) (L : Nat → Value), L 0 = .ref 25 → M.2.1 = zP0 n b → AQ M (a, o) → (∀ M', zSame sAQ M M' → AQ M' (5, aWh o) → R none M') → Ev Lx xs (d + 1) mM_whole 0 L [] M (zpost mM_whole R) := by
  intro o
  induction o with
  | nil =>
    intro M L hL0 hP hq hR
    refine ev_al dM_whole_0 rfl (by first | assumption | rfl) ?_
    refine ev_pV dM_whole_1 (r_top hP hq) lM_130 rec_M rfl (Nat.le_of_ble_eq_true rfl) rfl (Nat.le_of_ble_eq_true rfl) ?_
    refine ev_const (v := nI 4) dM_whole_4 (by decide) ?_
    refine ev_icmp (tgt := 21) dM_whole_5 (by decide) (fun h5 => ?_) (fun h5 => ?_)
    · refine ev_al dM_whole_21 rfl (by first | assumption | rfl) ?_
      refine ev_const (v := nI 5) dM_whole_22 (by decide) ?_
      refine ev_puti dM_whole_23 fM_134 fwM_state rfl (vp_nar_int _) rfl ?_
      refine ev_vret dM_whole_26 rfl ?_
      exact hR _ ((zSame.rf sAQ M).I (Or.inl ⟨rfl, Or.inr rfl⟩)) hq.st
    · exact absurd (show ¬ nI (aTop []) = nI 4 by decide) h5
  | cons x o ih =>
    intro M L hL0 hP hq hR
    have hx6 : x < 6 := hq.2.2.2.2 x List.mem_cons_self
    have hl : o.length + 1 ≤ 12 := hq.2.2.1
    refine ev_al dM_whole_0 rfl (by first | assumption | rfl) ?_
    refine ev_pV dM_whole_1 (r_top hP hq) lM_130 rec_M rfl (Nat.le_of_ble_eq_true rfl) rfl (Nat.le_of_ble_eq_true rfl) ?_
    refine ev_const (v := nI 4) dM_whole_4 (by decide) ?_
    refine ev_icmp (tgt := 21) dM_whole_5 (by decide) (fun h5 => ?_) (fun h5 => ?_)
    · simp only [zcond, Classical.not_not] at h5
      rw [nI_eq (by show x < 2 ^ 31; omega) (by decide)] at h5
      refine ev_al dM_whole_21 rfl (by first | assumption | rfl) ?_
      refine ev_const (v := nI 5) dM_whole_22 (by decide) ?_
      refine ev_puti dM_whole_23 fM_134 fwM_state rfl (vp_nar_int _) rfl ?_
      refine ev_vret dM_whole_26 rfl ?_
      refine hR _ ((zSame.rf sAQ M).I (Or.inl ⟨rfl, Or.inr rfl⟩)) ?_
      rw [show aWh (x :: o) = x :: o by
        unfold aWh
        split
        · rename_i h; cases h; exact absurd rfl h5
        · rfl]
      exact hq.st
    · simp only [zcond, Classical.not_not] at h5
      rw [nI_eq (by show x < 2 ^ 31; omega) (by decide)] at h5
      refine ev_al dM_whole_8 rfl (by first | assumption | rfl) ?_
      refine ev_stk dM_whole_9 rfl ?_
      refine ev_geti dM_whole_10 fM_127 rfl ?_
      rw [show M.1 25 30 = nI (o.length + 1) from hq.2.1]
      refine ev_const (v := nI 1) dM_whole_13 (by decide) ?_
      first | with_reducible refine ev_subN dM_whole_14 (by omega) ?_ | refine ev_sub dM_whole_14 ?_
      refine ev_puti dM_whole_15 fM_127 fwM_open rfl (vp_nar_int _) rfl ?_
      refine ev_goto (tgt := 0) dM_whole_18 (by decide) ?_
      have h5 : x = 4 := h5
      subst h5
      refine ev_mem (M' := zI M 25 30 (nI o.length)) (by rw [show o.length + 1 - 1 = o.length by omega]) ?_
      refine ih (zI M 25 30 (nI o.length)) _ (by first | assumption | rfl) hP hq.pop ?_
      intro M' hs hA
      exact hR M' ((zSame.I (S := sAQ) (zSame.rf _ M) (Or.inl ⟨rfl, Or.inl rfl⟩)).tr hs) hA
theorem r_whole {q : Nat × List Nat} (hP : M.2.1 = zP0 n b) (hq : AQ M q) : Ct Lx xs (d + 1) mM_whole [.ref 25] M (fun z M' => z = none ∧ zSame sAQ M M' ∧ AQ M' (5, aWh q.2)) :=
  r_wholeL q.2 M _ rfl hP hq (fun M' hs hA => ⟨rfl, hs, hA⟩)
set_option maxRecDepth 100000 in
set_option maxHeartbeats 4000000 in
theorem r_start {k g l br : Nat} (hP : M.2.1 = zP0 n b) (hg : M.1 25 15 = nI g) (hg2 : g < 160) (hl : M.1 25 33 = nI l) (hbr : br < 2) : Ct Lx xs d mM_start [.ref 25, .int (nI k), .int (nI br)] M (fun z M' => z = none ∧ M' = (zI (zI (zI (zI (zI (zI (zI M 35 g (nI k)) 36 g (-1)) 37 g (nI l)) 38 g (nI br)) 39 g (nI 0)) 25 35 (nI g)) 25 15 (nI (g + 1)))) := by
  unfold Ct
  refine ev_al dM_start_0 rfl (by first | assumption | rfl) ?_
  refine ev_getrP dM_start_1 fM_38 rfl (zq (q := 35) hP rfl) ?_
  refine ev_al dM_start_4 rfl (by first | assumption | rfl) ?_
  refine ev_geti dM_start_5 fM_137 rfl ?_
  rw [hg]
  refine ev_il dM_start_8 rfl (by first | assumption | rfl) ?_
  refine ev_iastN dM_start_9 rfl (by omega) ?_
  refine ev_al dM_start_10 rfl (by first | assumption | rfl) ?_
  refine ev_getrP dM_start_11 fM_41 rfl (zq (q := 36) hP rfl) ?_
  refine ev_al dM_start_14 rfl (by first | assumption | rfl) ?_
  refine ev_geti dM_start_15 fM_137 rfl ?_
  rw [show (zI M 35 g (nI k)).1 25 15 = nI g from (zI_o (by omega)).trans (hg)]
  refine ev_const (v := -1) dM_start_18 (by decide) ?_
  refine ev_iastN dM_start_19 rfl (by omega) ?_
  refine ev_al dM_start_20 rfl (by first | assumption | rfl) ?_
  refine ev_getrP dM_start_21 fM_44 rfl (zq (q := 37) hP rfl) ?_
  refine ev_al dM_start_24 rfl (by first | assumption | rfl) ?_
  refine ev_geti dM_start_25 fM_137 rfl ?_
  rw [show (zI (zI M 35 g (nI k)) 36 g (-1)).1 25 15 = nI g from (zI_o (by omega)).trans ((zI_o (by omega)).trans (hg))]
  refine ev_al dM_start_28 rfl (by first | assumption | rfl) ?_
  refine ev_geti dM_start_29 fM_140 rfl ?_
  rw [show (zI (zI M 35 g (nI k)) 36 g (-1)).1 25 33 = nI l from (zI_o (by omega)).trans ((zI_o (by omega)).trans hl)]
  refine ev_iastN dM_start_32 rfl (by omega) ?_
  refine ev_al dM_start_33 rfl (by first | assumption | rfl) ?_
  refine ev_getrP dM_start_34 fM_47 rfl (zq (q := 38) hP rfl) ?_
  refine ev_al dM_start_37 rfl (by first | assumption | rfl) ?_
  refine ev_geti dM_start_38 fM_137 rfl ?_
  rw [show (zI (zI (zI M 35 g (nI k)) 36 g (-1)) 37 g (nI l)).1 25 15 = nI g from (zI_o (by omega)).trans ((zI_o (by omega)).trans ((zI_o (by omega)).trans (hg)))]
  refine ev_il dM_start_41 rfl (by first | assumption | rfl) ?_
  refine ev_zastN dM_start_42 rfl (by omega) (by omega) ?_
  refine ev_al dM_start_43 rfl (by first | assumption | rfl) ?_
  refine ev_getrP dM_start_44 fM_51 rfl (zq (q := 39) hP rfl) ?_
  refine ev_al dM_start_47 rfl (by first | assumption | rfl) ?_
  refine ev_geti dM_start_48 fM_137 rfl ?_
  rw [show (zI (zI (zI (zI M 35 g (nI k)) 36 g (-1)) 37 g (nI l)) 38 g (nI br)).1 25 15 = nI g from (zI_o (by omega)).trans ((zI_o (by omega)).trans ((zI_o (by omega)).trans ((zI_o (by omega)).trans (hg))))]
  refine ev_const (v := nI 0) dM_start_51 (by decide) ?_
  refine ev_zastN dM_start_52 rfl (by omega) (by omega) ?_
  refine ev_al dM_start_53 rfl (by first | assumption | rfl) ?_
  refine ev_al dM_start_54 rfl (by first | assumption | rfl) ?_
  refine ev_geti dM_start_55 fM_137 rfl ?_
  rw [show (zI (zI (zI (zI (zI M 35 g (nI k)) 36 g (-1)) 37 g (nI l)) 38 g (nI br)) 39 g (nI 0)).1 25 15 = nI g from (zI_o (by omega)).trans ((zI_o (by omega)).trans ((zI_o (by omega)).trans ((zI_o (by omega)).trans ((zI_o (by omega)).trans (hg)))))]
  refine ev_puti dM_start_58 fM_143 fwM_item rfl (vp_nar_int _) rfl ?_
  refine ev_al dM_start_61 rfl (by first | assumption | rfl) ?_
  refine ev_stk dM_start_62 rfl ?_
  refine ev_geti dM_start_63 fM_137 rfl ?_
  rw [show (zI (zI (zI (zI (zI (zI M 35 g (nI k)) 36 g (-1)) 37 g (nI l)) 38 g (nI br)) 39 g (nI 0)) 25 35 (nI g)).1 25 15 = nI g from (zI_k (by omega)).trans ((zI_o (by omega)).trans ((zI_o (by omega)).trans ((zI_o (by omega)).trans ((zI_o (by omega)).trans ((zI_o (by omega)).trans hg)))))]
  refine ev_const (v := nI 1) dM_start_66 (by decide) ?_
  first | with_reducible refine ev_addN dM_start_67 ?_ | refine ev_add dM_start_67 ?_
  refine ev_puti dM_start_68 fM_137 fwM_begun rfl (vp_nar_int _) rfl ?_
  refine ev_vret dM_start_71 rfl ?_
  exact ⟨rfl, rfl⟩
set_option maxRecDepth 100000 in
set_option maxHeartbeats 4000000 in
theorem r_finish {j k q g i : Nat} (hP : M.2.1 = zP0 n b) (hj : j < 160) (hq : M.1 25 30 = nI q) (hq2 : q ≤ 12) (hg : M.1 25 15 = nI g) (hi : M.1 25 14 = nI i) : Ct Lx xs d mM_finish [.ref 25, .int (nI j), .int (nI k)] M (fun z M' => z = none ∧ M' = zI (zI (zI M 36 j (nI k)) 25 32 (nI 0)) 25 14 (nI (if q = 0 then g else i))) := by
  unfold Ct
  refine ev_al dM_finish_0 rfl (by first | assumption | rfl) ?_
  refine ev_getrP dM_finish_1 fM_41 rfl (zq (q := 36) hP rfl) ?_
  refine ev_il dM_finish_4 rfl (by first | assumption | rfl) ?_
  refine ev_il dM_finish_5 rfl (by first | assumption | rfl) ?_
  refine ev_iastN dM_finish_6 rfl (by omega) ?_
  refine ev_al dM_finish_7 rfl (by first | assumption | rfl) ?_
  refine ev_const (v := nI 0) dM_finish_8 (by decide) ?_
  refine ev_puti dM_finish_9 fM_134 fwM_state rfl (vp_nar_int _) rfl ?_
  refine ev_al dM_finish_12 rfl (by first | assumption | rfl) ?_
  refine ev_al dM_finish_13 rfl (by first | assumption | rfl) ?_
  refine ev_geti dM_finish_14 fM_127 rfl ?_
  rw [show (zI (zI M 36 j (nI k)) 25 32 (nI 0)).1 25 30 = nI q from (zI_k (by omega)).trans ((zI_o (by omega)).trans hq)]
  refine ev_if0 (tgt := 27) dM_finish_17 (by decide) (fun h17 => ?_) (fun h17 => ?_)
  · try simp (disch := omega) only [zcond, nI_ltI, nI_leI, nI_eq, zb0, Classical.not_not, Bool.not_eq_false, Bool.not_eq_true, Nat.not_lt, Nat.not_le] at h17
    refine ev_al dM_finish_27 rfl (by first | assumption | rfl) ?_
    refine ev_geti dM_finish_28 fM_146 rfl ?_
    try rw [show (zI (zI M 36 j (nI k)) 25 32 (nI 0)).1 25 14 = nI i from (zI_k (by omega)).trans ((zI_o (by omega)).trans hi)]
    refine ev_puti dM_finish_31 fM_146 fwM_items rfl (vp_nar_int _) rfl ?_
    refine ev_vret dM_finish_34 rfl ?_
    first | (rw [if_pos h17]; exact ⟨rfl, rfl⟩) | (rw [if_neg h17]; exact ⟨rfl, rfl⟩)
  · try simp (disch := omega) only [zcond, nI_ltI, nI_leI, nI_eq, zb0, Classical.not_not, Bool.not_eq_false, Bool.not_eq_true, Nat.not_lt, Nat.not_le] at h17
    refine ev_al dM_finish_20 rfl (by first | assumption | rfl) ?_
    refine ev_geti dM_finish_21 fM_137 rfl ?_
    rw [show (zI (zI M 36 j (nI k)) 25 32 (nI 0)).1 25 15 = nI g from (zI_k (by omega)).trans ((zI_o (by omega)).trans hg)]
    refine ev_goto (tgt := 31) dM_finish_24 (by decide) ?_
    try rw [show (zI (zI M 36 j (nI k)) 25 32 (nI 0)).1 25 14 = nI i from (zI_k (by omega)).trans ((zI_o (by omega)).trans hi)]
    refine ev_puti dM_finish_31 fM_146 fwM_items rfl (vp_nar_int _) rfl ?_
    refine ev_vret dM_finish_34 rfl ?_
    first | (rw [if_pos h17]; exact ⟨rfl, rfl⟩) | (rw [if_neg h17]; exact ⟨rfl, rfl⟩)
end
