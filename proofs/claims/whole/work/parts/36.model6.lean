/- the reference: a token, all tokens (rows laid by program) -/
def aT2 (c k : Nat) (q : Nat × List Nat) (B : aB) : Option ((Nat × List Nat) × aB) :=
  if q.1 = 0 then aItem c k q B
  else if q.1 = 1 then aNam c q B
  else if q.1 = 2 then (aFac c q.2).map (fun x => (x, B))
  else if q.1 = 3 then (if c = 41 then some (aClo q.2, B) else (aFac c q.2).map (fun x => (x, B)))
  else if q.1 = 5 then aBeh c k q B
  else if c = 59 then some ((0, q.2), aFin B q.2.length B.1.2.2.2 k) else none
def aTok (c k : Nat) (q : Nat × List Nat) (B : aB) : Option ((Nat × List Nat) × aB) :=
  if q.1 = 4 ∧ c = 40 then (if q.2.length = 12 then none else some ((3, 3 :: q.2), B))
  else aT2 c k (if q.1 = 4 then (5, aWh q.2) else q) B
def aIv (k : Nat) (q : Nat × List Nat) (B : aB) : Prop := B.1.2.1 ≤ k ∧ B.1.2.2.2 < 160 ∧ (∀ x ∈ B.1.1, x < 160) ∧ B.1.1.length = q.2.count 1 ∧ (q.1 = 3 → q.2 ≠ []) ∧ q.1 ≤ 6
theorem aIv.ok {k : Nat} {q : Nat × List Nat} {B : aB} (h : aIv k q B) (hk : k < 160) (hl : q.2.length ≤ 12) : aOk q B := by
  obtain ⟨h1, h2, h3, h4, h5, h6⟩ := h
  refine ⟨by omega, ?_, h2, fun ht => ?_⟩
  · rw [h4]; exact Nat.le_trans List.count_le_length hl
  · obtain ⟨o, ho⟩ := aTop_cons ht (by decide)
    rw [ho] at h4
    cases hb : B.1.1 with
    | nil => rw [hb] at h4; simp at h4
    | cons x bl => exact ⟨x, bl, rfl, h3 x (by rw [hb]; exact List.mem_cons_self)⟩
theorem aWh_cnt : ∀ o : List Nat, (aWh o).count 1 = o.count 1
  | [] => rfl
  | a :: o => by
    unfold aWh
    split
    · rename_i h; cases h; rw [aWh_cnt]; simp
    · rfl
theorem aClo_cnt {x : Nat} {o : List Nat} (hx : x ≠ 1) : (aClo (x :: o)).2.count 1 = (x :: o).count 1 := by
  unfold aClo
  split
  · simp [hx]
  · show (aWh o).count 1 = _; rw [aWh_cnt]; simp [hx]
theorem aFac_iv {c : Nat} {o : List Nat} {x : Nat × List Nat} (h : aFac c o = some x) : x.2.count 1 = o.count 1 ∧ x.1 ≠ 3 ∧ x.1 ≤ 6 := by
  unfold aFac at h
  repeat' split at h
  all_goals first | (cases h; done) | (cases h; refine ⟨?_, ?_, ?_⟩ <;> first | exact aWh_cnt o | rfl | simp)
section
variable {Lx : Nat} {xs : Nat → Int32} {d : Nat} {M : zM} {n b : Nat}
theorem rB_z {M M' : zM} {B : aB} {res : Option ((Nat × List Nat) × aB)} {z : Option Int32} (h : rB M B res z M') : z = some (nI 1) ∨ z = some (nI 0) := by
  obtain ⟨-, h⟩ := h
  cases res with
  | none => exact Or.inr h.1
  | some x => exact Or.inl h.1
theorem rQ_z {M M' : zM} {res : Option (Nat × List Nat)} {z : Option Int32} (h : rQ M res z M') : z = some (nI 1) ∨ z = some (nI 0) := by
  obtain ⟨-, h⟩ := h
  cases res with
  | none => exact Or.inr h
  | some x => exact Or.inl h.1
theorem rQ_B {M M' : zM} {B : aB} {res : Option (Nat × List Nat)} {z : Option Int32} (h : rQ M res z M') (hB : AB M B) : rB M B (res.map (fun x => (x, B))) z M' := by
  obtain ⟨hs, h⟩ := h
  cases res with
  | none => exact ⟨hs.up, h, hs.AB hB⟩
  | some x => exact ⟨hs.up, h.1, h.2, hs.AB hB⟩
set_option maxRecDepth 100000 in
set_option maxHeartbeats 4000000 in
theorem r_tok41 {e k : Nat} {t : Nat → Nat} {ts : List (Nat × Nat × Nat)} {q : Nat × List Nat} {B : aB} (hP : M.2.1 = zP0 n b) (hk : MTk M e t ts) (hk2 : k < ts.length) (hq : AQ M q) (hB : AB M B) (hO : aOk q B) (h4 : q.1 ≠ 4) (h6 : q.1 ≤ 6) (hn3 : q.1 = 3 → q.2 ≠ []) {R : Option Int32 → zM → Prop} (hR : ∀ z M', rB M B (aT2 (tMk t ts k) k q B) z M' → R z M') {L : Nat → Value} (hL0 : L 0 = .ref 25) (hL1 : L 1 = .int (nI k)) : Ev Lx xs (d + 4) mM_readToken 41 L [] M (zpost mM_readToken R) := by
  have he := hk.1.2.1
  have hlen := hk.2.2.1.2.1
  refine ev_al dM_readToken_41 rfl (by first | assumption | rfl) ?_
  refine ev_geti dM_readToken_42 fM_134 rfl ?_
  rw [hq.1]
  rcases (show q.1 = 0 ∨ q.1 = 1 ∨ q.1 = 2 ∨ q.1 = 3 ∨ q.1 = 5 ∨ q.1 = 6 by omega) with hst | hst | hst | hst | hst | hst
  · rw [hst]
    refine ev_tin (tgt := 84) dM_readToken_45 (by decide) (by decide) rfl (by decide) ?_
    refine ev_al dM_readToken_84 rfl (by first | assumption | rfl) ?_
    refine ev_il dM_readToken_85 rfl (by first | assumption | rfl) ?_
    refine ev_cV dM_readToken_86 (r_readItem hP hk hk2 hq hB hO) lM_172 rec_M rfl (Nat.le_of_ble_eq_true rfl) rfl (Nat.le_of_ble_eq_true rfl) (fun z M1 hz => ?_)
    rcases rB_z hz with rfl | rfl
    · have hz0 := hz
      refine ev_ret dM_readToken_89 rfl rfl ?_
      apply hR
      unfold aT2
      rw [if_pos hst]
      exact hz0
    · have hz0 := hz
      refine ev_ret dM_readToken_89 rfl rfl ?_
      apply hR
      unfold aT2
      rw [if_pos hst]
      exact hz0
  · rw [hst]
    refine ev_tin (tgt := 90) dM_readToken_45 (by decide) (by decide) rfl (by decide) ?_
    refine ev_al dM_readToken_90 rfl (by first | assumption | rfl) ?_
    refine ev_il dM_readToken_91 rfl (by first | assumption | rfl) ?_
    refine ev_cV dM_readToken_92 (r_readNamed hP hk hk2 hq hB hO) lM_175 rec_M rfl (Nat.le_of_ble_eq_true rfl) rfl (Nat.le_of_ble_eq_true rfl) (fun z M1 hz => ?_)
    rcases rB_z hz with rfl | rfl
    · have hz0 := hz
      refine ev_ret dM_readToken_95 rfl rfl ?_
      apply hR
      unfold aT2
      rw [if_neg (by omega), if_pos hst]
      exact hz0
    · have hz0 := hz
      refine ev_ret dM_readToken_95 rfl rfl ?_
      apply hR
      unfold aT2
      rw [if_neg (by omega), if_pos hst]
      exact hz0
  · rw [hst]
    refine ev_tin (tgt := 96) dM_readToken_45 (by decide) (by decide) rfl (by decide) ?_
    refine ev_al dM_readToken_96 rfl (by first | assumption | rfl) ?_
    refine ev_il dM_readToken_97 rfl (by first | assumption | rfl) ?_
    refine ev_cV dM_readToken_98 (r_readFactor hP hk hk2 hq) lM_178 rec_M rfl (Nat.le_of_ble_eq_true rfl) rfl (Nat.le_of_ble_eq_true rfl) (fun z M1 hz => ?_)
    rcases rQ_z hz with rfl | rfl
    · have hz0 := hz
      refine ev_ret dM_readToken_101 rfl rfl ?_
      apply hR
      unfold aT2
      rw [if_neg (by omega), if_neg (by omega), if_pos hst]
      exact rQ_B hz0 hB
    · have hz0 := hz
      refine ev_ret dM_readToken_101 rfl rfl ?_
      apply hR
      unfold aT2
      rw [if_neg (by omega), if_neg (by omega), if_pos hst]
      exact rQ_B hz0 hB
  · rw [hst]
    refine ev_tin (tgt := 102) dM_readToken_45 (by decide) (by decide) rfl (by decide) ?_
    refine ev_al dM_readToken_102 rfl (by first | assumption | rfl) ?_
    refine ev_il dM_readToken_103 rfl (by first | assumption | rfl) ?_
    refine ev_const (v := nI 41) dM_readToken_104 (by decide) ?_
    refine ev_pV dM_readToken_106 (r_is (M := M) hP hk hk2 (by decide)) lM_153 rec_M rfl (Nat.le_of_ble_eq_true rfl) rfl (Nat.le_of_ble_eq_true rfl) ?_
    refine ev_if0 (tgt := 119) dM_readToken_109 (by decide) (fun h109 => ?_) (fun h109 => ?_)
    · simp only [zcond, zb0, Classical.not_not, Bool.not_eq_false, Bool.not_eq_true, decide_eq_true_eq, decide_eq_false_iff_not] at h109
      refine ev_al dM_readToken_119 rfl (by first | assumption | rfl) ?_
      refine ev_il dM_readToken_120 rfl (by first | assumption | rfl) ?_
      refine ev_cV dM_readToken_121 (r_readFactor hP hk hk2 hq) lM_178 rec_M rfl (Nat.le_of_ble_eq_true rfl) rfl (Nat.le_of_ble_eq_true rfl) (fun z M1 hz => ?_)
      rcases rQ_z hz with rfl | rfl
      · have hz0 := hz
        refine ev_ret dM_readToken_124 rfl rfl ?_
        apply hR
        unfold aT2
        rw [if_neg (by omega), if_neg (by omega), if_neg (by omega), if_pos hst]
        first
        | (rw [if_pos h109]; have h := rQ_B hz0 hB; rw [ho]; exact h)
        | (rw [if_neg h109]; exact rQ_B hz0 hB)
      · have hz0 := hz
        refine ev_ret dM_readToken_124 rfl rfl ?_
        apply hR
        unfold aT2
        rw [if_neg (by omega), if_neg (by omega), if_neg (by omega), if_pos hst]
        first
        | (rw [if_pos h109]; have h := rQ_B hz0 hB; rw [ho]; exact h)
        | (rw [if_neg h109]; exact rQ_B hz0 hB)
    · simp only [zcond, zb0, Classical.not_not, Bool.not_eq_false, Bool.not_eq_true, decide_eq_true_eq, decide_eq_false_iff_not] at h109
      obtain ⟨x, o, ho⟩ : ∃ x o, q = (q.1, x :: o) := by
        obtain ⟨a, l⟩ := q
        cases l with
        | nil => exact absurd rfl (hn3 hst)
        | cons x o => exact ⟨x, o, rfl⟩
      have hq' : AQ M (q.1, x :: o) := by rw [← ho]; exact hq
      refine ev_al dM_readToken_112 rfl (by first | assumption | rfl) ?_
      refine ev_cV dM_readToken_113 (r_close hP hq') lM_168 rec_M rfl (Nat.le_of_ble_eq_true rfl) rfl (Nat.le_of_ble_eq_true rfl) (fun z M1 hz => ?_)
      rcases rQ_z hz with rfl | rfl
      · have hz0 := hz
        refine ev_goto (tgt := 124) dM_readToken_116 (by decide) ?_
        refine ev_ret dM_readToken_124 rfl rfl ?_
        apply hR
        unfold aT2
        rw [if_neg (by omega), if_neg (by omega), if_neg (by omega), if_pos hst]
        first
        | (rw [if_pos h109]; have h := rQ_B hz0 hB; rw [ho]; exact h)
        | (rw [if_neg h109]; exact rQ_B hz0 hB)
      · have hz0 := hz
        refine ev_goto (tgt := 124) dM_readToken_116 (by decide) ?_
        refine ev_ret dM_readToken_124 rfl rfl ?_
        apply hR
        unfold aT2
        rw [if_neg (by omega), if_neg (by omega), if_neg (by omega), if_pos hst]
        first
        | (rw [if_pos h109]; have h := rQ_B hz0 hB; rw [ho]; exact h)
        | (rw [if_neg h109]; exact rQ_B hz0 hB)
  · rw [hst]
    refine ev_tin (tgt := 125) dM_readToken_45 (by decide) (by decide) rfl (by decide) ?_
    refine ev_al dM_readToken_125 rfl (by first | assumption | rfl) ?_
    refine ev_il dM_readToken_126 rfl (by first | assumption | rfl) ?_
    refine ev_cV dM_readToken_127 (r_readBehind hP hk hk2 hq hB hO) lM_181 rec_M rfl (Nat.le_of_ble_eq_true rfl) rfl (Nat.le_of_ble_eq_true rfl) (fun z M1 hz => ?_)
    rcases rB_z hz with rfl | rfl
    · have hz0 := hz
      refine ev_ret dM_readToken_130 rfl rfl ?_
      apply hR
      unfold aT2
      rw [if_neg (by omega), if_neg (by omega), if_neg (by omega), if_neg (by omega), if_pos hst]
      exact hz0
    · have hz0 := hz
      refine ev_ret dM_readToken_130 rfl rfl ?_
      apply hR
      unfold aT2
      rw [if_neg (by omega), if_neg (by omega), if_neg (by omega), if_neg (by omega), if_pos hst]
      exact hz0
  · rw [hst]
    refine ev_tout (tgt := 131) dM_readToken_45 (by decide) (by decide) ?_
    refine ev_al dM_readToken_131 rfl (by first | assumption | rfl) ?_
    refine ev_il dM_readToken_132 rfl (by first | assumption | rfl) ?_
    refine ev_const (v := nI 59) dM_readToken_133 (by decide) ?_
    refine ev_pV dM_readToken_135 (r_is (M := M) hP hk hk2 (by decide)) lM_153 rec_M rfl (Nat.le_of_ble_eq_true rfl) rfl (Nat.le_of_ble_eq_true rfl) ?_
    refine ev_if0 (tgt := 152) dM_readToken_138 (by decide) (fun h138 => ?_) (fun h138 => ?_)
    · simp only [zcond, zb0, Classical.not_not, Bool.not_eq_false, Bool.not_eq_true, decide_eq_true_eq, decide_eq_false_iff_not] at h138
      refine ev_const (v := nI 0) dM_readToken_152 (by decide) ?_
      refine ev_ret dM_readToken_153 rfl rfl ?_
      apply hR
      unfold aT2
      rw [if_neg (by omega), if_neg (by omega), if_neg (by omega), if_neg (by omega), if_neg (by omega)]
      rw [if_neg h138]
      exact rB_n (zSame.rf _ _) hB rfl
    · simp only [zcond, zb0, Classical.not_not, Bool.not_eq_false, Bool.not_eq_true, decide_eq_true_eq, decide_eq_false_iff_not] at h138
      refine ev_al dM_readToken_141 rfl (by first | assumption | rfl) ?_
      refine ev_al dM_readToken_142 rfl (by first | assumption | rfl) ?_
      refine ev_geti dM_readToken_143 fM_143 rfl ?_
      rw [hB.2.2.2.2.1]
      refine ev_il dM_readToken_146 rfl (by first | assumption | rfl) ?_
      refine ev_cV dM_readToken_147 (r_finish (j := B.1.2.2.2) (k := k) hP hO.2.2.1 hq.2.1 hq.2.2.1 hB.2.2.1 hB.2.2.2.1) lM_161 rec_M rfl (Nat.le_of_ble_eq_true rfl) rfl (Nat.le_of_ble_eq_true rfl) (fun z M5 hz => ?_)
      obtain ⟨rfl, hM5⟩ := hz
      refine ev_const (v := nI 1) dM_readToken_150 (by decide) ?_
      refine ev_ret dM_readToken_151 rfl rfl ?_
      apply hR
      unfold aT2
      rw [if_neg (by omega), if_neg (by omega), if_neg (by omega), if_neg (by omega), if_neg (by omega)]
      rw [if_pos h138, hM5]
      exact rB_y (x := ((0, q.2), aFin B q.2.length B.1.2.2.2 k)) ((((zSame.rf sAB M).I (by unfold sAB; omega)).I (by unfold sAB; omega)).I (by unfold sAB; omega)) ((hq.st (x := 0)).keep (by simp [zI_at]) (by simp [zI_at]) (fun i => by simp [zI_at])) hB.fin rfl
set_option maxRecDepth 100000 in
set_option maxHeartbeats 4000000 in
theorem r_readToken {e k : Nat} {t : Nat → Nat} {ts : List (Nat × Nat × Nat)} {q : Nat × List Nat} {B : aB} (hP : M.2.1 = zP0 n b) (hk : MTk M e t ts) (hk2 : k < ts.length) (hq : AQ M q) (hB : AB M B) (hv : aIv k q B) : Ct Lx xs (d + 4) mM_readToken [.ref 25, .int (nI k)] M (rB M B (aTok (tMk t ts k) k q B)) := by
  have he := hk.1.2.1
  have hlen := hk.2.2.1.2.1
  have hv6 := hv.2.2.2.2.2
  unfold Ct
  refine ev_al dM_readToken_0 rfl (by first | assumption | rfl) ?_
  refine ev_geti dM_readToken_1 fM_134 rfl ?_
  rw [hq.1]
  refine ev_const (v := nI 4) dM_readToken_4 (by decide) ?_
  refine ev_icmp (tgt := 29) dM_readToken_5 (by decide) (fun h5 => ?_) (fun h5 => ?_)
  · simp (disch := omega) only [zcond, nI_eq, Classical.not_not] at h5
    refine ev_al dM_readToken_29 rfl (by first | assumption | rfl) ?_
    refine ev_geti dM_readToken_30 fM_134 rfl ?_
    rw [hq.1]
    refine ev_const (v := nI 4) dM_readToken_33 (by decide) ?_
    refine ev_icmp (tgt := 41) dM_readToken_34 (by decide) (fun h34 => ?_) (fun h34 => ?_)
    · simp (disch := omega) only [zcond, nI_eq, Classical.not_not] at h34
      first
      | (exfalso; omega)
      | (have hw2 : (aWh q.2).length ≤ 12 := hA1.2.2.1
         have hv1 : aIv k (5, aWh q.2) B := ⟨hv.1, hv.2.1, hv.2.2.1, hv.2.2.2.1.trans (aWh_cnt q.2).symm, fun h => absurd h (show ¬ 5 = 3 by decide), show 5 ≤ 6 by decide⟩
         refine r_tok41 (M := M1) (q := (5, aWh q.2)) (by rw [hs1.1]; exact hP) (hs1.up.MTk hk) hk2 hA1 (hs1.AB hB) (hv1.ok (by omega) hw2) (show 5 ≠ 4 by decide) (show 5 ≤ 6 by decide) (fun h => absurd h (show ¬ 5 = 3 by decide)) ?_ (by first | assumption | rfl) (by first | assumption | rfl)
         intro z M' hz
         rw [show aTok (tMk t ts k) k q B = aT2 (tMk t ts k) k (5, aWh q.2) B by (unfold aTok; rw [if_neg (fun h => h15 h.2), if_pos h34])]
         obtain ⟨hz1, hz2⟩ := hz
         exact ⟨hs1.up.tr hz1, hz2⟩)
      | (refine r_tok41 hP hk hk2 hq hB (hv.ok (by omega) hq.2.2.1) h34 hv.2.2.2.2.2 hv.2.2.2.2.1 ?_ (by first | assumption | rfl) (by first | assumption | rfl)
         intro z M' hz
         rw [show aTok (tMk t ts k) k q B = aT2 (tMk t ts k) k q B by (unfold aTok; rw [if_neg (fun h => h34 h.1), if_neg h34])]
         exact hz)
    · simp (disch := omega) only [zcond, nI_eq, Classical.not_not] at h34
      refine ev_al dM_readToken_37 rfl (by first | assumption | rfl) ?_
      refine ev_cV dM_readToken_38 (r_whole hP hq) lM_165 rec_M rfl (Nat.le_of_ble_eq_true rfl) rfl (Nat.le_of_ble_eq_true rfl) (fun z M1 hz => ?_)
      obtain ⟨rfl, hs1, hA1⟩ := hz
      first
      | (exfalso; omega)
      | (have hw2 : (aWh q.2).length ≤ 12 := hA1.2.2.1
         have hv1 : aIv k (5, aWh q.2) B := ⟨hv.1, hv.2.1, hv.2.2.1, hv.2.2.2.1.trans (aWh_cnt q.2).symm, fun h => absurd h (show ¬ 5 = 3 by decide), show 5 ≤ 6 by decide⟩
         refine r_tok41 (M := M1) (q := (5, aWh q.2)) (by rw [hs1.1]; exact hP) (hs1.up.MTk hk) hk2 hA1 (hs1.AB hB) (hv1.ok (by omega) hw2) (show 5 ≠ 4 by decide) (show 5 ≤ 6 by decide) (fun h => absurd h (show ¬ 5 = 3 by decide)) ?_ (by first | assumption | rfl) (by first | assumption | rfl)
         intro z M' hz
         rw [show aTok (tMk t ts k) k q B = aT2 (tMk t ts k) k (5, aWh q.2) B by (unfold aTok; rw [if_neg (fun h => h15 h.2), if_pos h34])]
         obtain ⟨hz1, hz2⟩ := hz
         exact ⟨hs1.up.tr hz1, hz2⟩)
      | (refine r_tok41 hP hk hk2 hq hB (hv.ok (by omega) hq.2.2.1) h34 hv.2.2.2.2.2 hv.2.2.2.2.1 ?_ (by first | assumption | rfl) (by first | assumption | rfl)
         intro z M' hz
         rw [show aTok (tMk t ts k) k q B = aT2 (tMk t ts k) k q B by (unfold aTok; rw [if_neg (fun h => h34 h.1), if_neg h34])]
         exact hz)
  · simp (disch := omega) only [zcond, nI_eq, Classical.not_not] at h5
    refine ev_al dM_readToken_8 rfl (by first | assumption | rfl) ?_
    refine ev_il dM_readToken_9 rfl (by first | assumption | rfl) ?_
    refine ev_const (v := nI 40) dM_readToken_10 (by decide) ?_
    refine ev_pV dM_readToken_12 (r_is (M := M) hP hk hk2 (by decide)) lM_153 rec_M rfl (Nat.le_of_ble_eq_true rfl) rfl (Nat.le_of_ble_eq_true rfl) ?_
    refine ev_if0 (tgt := 29) dM_readToken_15 (by decide) (fun h15 => ?_) (fun h15 => ?_)
    · simp only [zcond, zb0, Classical.not_not, Bool.not_eq_false, Bool.not_eq_true, decide_eq_true_eq, decide_eq_false_iff_not] at h15
      refine ev_al dM_readToken_29 rfl (by first | assumption | rfl) ?_
      refine ev_geti dM_readToken_30 fM_134 rfl ?_
      rw [hq.1]
      refine ev_const (v := nI 4) dM_readToken_33 (by decide) ?_
      refine ev_icmp (tgt := 41) dM_readToken_34 (by decide) (fun h34 => ?_) (fun h34 => ?_)
      · simp (disch := omega) only [zcond, nI_eq, Classical.not_not] at h34
        first
        | (exfalso; omega)
        | (have hw2 : (aWh q.2).length ≤ 12 := hA1.2.2.1
           have hv1 : aIv k (5, aWh q.2) B := ⟨hv.1, hv.2.1, hv.2.2.1, hv.2.2.2.1.trans (aWh_cnt q.2).symm, fun h => absurd h (show ¬ 5 = 3 by decide), show 5 ≤ 6 by decide⟩
           refine r_tok41 (M := M1) (q := (5, aWh q.2)) (by rw [hs1.1]; exact hP) (hs1.up.MTk hk) hk2 hA1 (hs1.AB hB) (hv1.ok (by omega) hw2) (show 5 ≠ 4 by decide) (show 5 ≤ 6 by decide) (fun h => absurd h (show ¬ 5 = 3 by decide)) ?_ (by first | assumption | rfl) (by first | assumption | rfl)
           intro z M' hz
           rw [show aTok (tMk t ts k) k q B = aT2 (tMk t ts k) k (5, aWh q.2) B by (unfold aTok; rw [if_neg (fun h => h15 h.2), if_pos h34])]
           obtain ⟨hz1, hz2⟩ := hz
           exact ⟨hs1.up.tr hz1, hz2⟩)
        | (refine r_tok41 hP hk hk2 hq hB (hv.ok (by omega) hq.2.2.1) h34 hv.2.2.2.2.2 hv.2.2.2.2.1 ?_ (by first | assumption | rfl) (by first | assumption | rfl)
           intro z M' hz
           rw [show aTok (tMk t ts k) k q B = aT2 (tMk t ts k) k q B by (unfold aTok; rw [if_neg (fun h => h34 h.1), if_neg h34])]
           exact hz)
      · simp (disch := omega) only [zcond, nI_eq, Classical.not_not] at h34
        refine ev_al dM_readToken_37 rfl (by first | assumption | rfl) ?_
        refine ev_cV dM_readToken_38 (r_whole hP hq) lM_165 rec_M rfl (Nat.le_of_ble_eq_true rfl) rfl (Nat.le_of_ble_eq_true rfl) (fun z M1 hz => ?_)
        obtain ⟨rfl, hs1, hA1⟩ := hz
        first
        | (exfalso; omega)
        | (have hw2 : (aWh q.2).length ≤ 12 := hA1.2.2.1
           have hv1 : aIv k (5, aWh q.2) B := ⟨hv.1, hv.2.1, hv.2.2.1, hv.2.2.2.1.trans (aWh_cnt q.2).symm, fun h => absurd h (show ¬ 5 = 3 by decide), show 5 ≤ 6 by decide⟩
           refine r_tok41 (M := M1) (q := (5, aWh q.2)) (by rw [hs1.1]; exact hP) (hs1.up.MTk hk) hk2 hA1 (hs1.AB hB) (hv1.ok (by omega) hw2) (show 5 ≠ 4 by decide) (show 5 ≤ 6 by decide) (fun h => absurd h (show ¬ 5 = 3 by decide)) ?_ (by first | assumption | rfl) (by first | assumption | rfl)
           intro z M' hz
           rw [show aTok (tMk t ts k) k q B = aT2 (tMk t ts k) k (5, aWh q.2) B by (unfold aTok; rw [if_neg (fun h => h15 h.2), if_pos h34])]
           obtain ⟨hz1, hz2⟩ := hz
           exact ⟨hs1.up.tr hz1, hz2⟩)
        | (refine r_tok41 hP hk hk2 hq hB (hv.ok (by omega) hq.2.2.1) h34 hv.2.2.2.2.2 hv.2.2.2.2.1 ?_ (by first | assumption | rfl) (by first | assumption | rfl)
           intro z M' hz
           rw [show aTok (tMk t ts k) k q B = aT2 (tMk t ts k) k q B by (unfold aTok; rw [if_neg (fun h => h34 h.1), if_neg h34])]
           exact hz)
    · simp only [zcond, zb0, Classical.not_not, Bool.not_eq_false, Bool.not_eq_true, decide_eq_true_eq, decide_eq_false_iff_not] at h15
      refine ev_al dM_readToken_18 rfl (by first | assumption | rfl) ?_
      refine ev_const (v := nI 3) dM_readToken_19 (by decide) ?_
      refine ev_puti dM_readToken_20 fM_134 fwM_state rfl (vp_nar_int _) rfl ?_
      refine ev_al dM_readToken_23 rfl (by first | assumption | rfl) ?_
      refine ev_const (v := nI 3) dM_readToken_24 (by decide) ?_
      by_cases h12 : q.2.length = 12
      · refine ev_pV dM_readToken_25 (r_push_n (M := (zI M 25 32 (nI 3))) hP (hq.st (x := 3)) h12) lM_157 rec_M rfl (Nat.le_of_ble_eq_true rfl) rfl (Nat.le_of_ble_eq_true rfl) ?_
        refine ev_ret dM_readToken_28 rfl rfl ?_
        first
        | (rw [show aTok (tMk t ts k) k q B = none by (unfold aTok; rw [if_pos (And.intro h5 h15), if_pos h12])]
           exact rB_n (zSame.I (S := sAB) (zSame.rf _ M) (by unfold sAB; omega)) hB.st rfl)
        | (rw [show aTok (tMk t ts k) k q B = some ((3, 3 :: q.2), B) by (unfold aTok; rw [if_pos (And.intro h5 h15), if_neg h12]), hM1]
           exact rB_y (x := ((3, 3 :: q.2), B)) (((zSame.I (S := sAB) (zSame.rf _ M) (by unfold sAB; omega)).I (by unfold sAB; omega)).I (by unfold sAB; omega)) ((hq.st (x := 3)).push h12 (by decide)) ((((zSame.rf sAQ M).I (Or.inl ⟨rfl, Or.inr rfl⟩)).I (Or.inr rfl)).I (Or.inl ⟨rfl, Or.inl rfl⟩) |>.AB hB) rfl)
      · refine ev_cV dM_readToken_25 (r_push_y (M := (zI M 25 32 (nI 3))) (x := 3) hP (hq.st (x := 3)) h12) lM_157 rec_M rfl (Nat.le_of_ble_eq_true rfl) rfl (Nat.le_of_ble_eq_true rfl) (fun z M1 hz => ?_)
        obtain ⟨rfl, hM1⟩ := hz
        refine ev_ret dM_readToken_28 rfl rfl ?_
        first
        | (rw [show aTok (tMk t ts k) k q B = none by (unfold aTok; rw [if_pos (And.intro h5 h15), if_pos h12])]
           exact rB_n (zSame.I (S := sAB) (zSame.rf _ M) (by unfold sAB; omega)) hB.st rfl)
        | (rw [show aTok (tMk t ts k) k q B = some ((3, 3 :: q.2), B) by (unfold aTok; rw [if_pos (And.intro h5 h15), if_neg h12]), hM1]
           exact rB_y (x := ((3, 3 :: q.2), B)) (((zSame.I (S := sAB) (zSame.rf _ M) (by unfold sAB; omega)).I (by unfold sAB; omega)).I (by unfold sAB; omega)) ((hq.st (x := 3)).push h12 (by decide)) ((((zSame.rf sAQ M).I (Or.inl ⟨rfl, Or.inr rfl⟩)).I (Or.inr rfl)).I (Or.inl ⟨rfl, Or.inl rfl⟩) |>.AB hB) rfl)
end
