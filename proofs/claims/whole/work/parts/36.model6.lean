/- the reference: a token, all tokens (rows laid by program) -/
def aT2 (c k : Nat) (q : Nat × List Nat) (B : aB) : Option ((Nat × List Nat) × aB) :=
  if q.1 = 0 then aItem c k q B
  else if q.1 = 1 then aNam c q B
  else if q.1 = 2 then (aFac c q.2).map (fun x => (x, B))
  else if q.1 = 3 then (if c = 41 then some (aClo q.2, B) else (aFac c q.2).map (fun x => (x, B)))
  else if q.1 = 5 then aBeh c k q B
  else if c = 59 then some ((0, q.2), aFin B q.2.length B.1.2.2.2 k) else none
def aTok (c k : Nat) (q : Nat × List Nat) (B : aB) : Option ((Nat × List Nat) × aB) :=
  if q.1 = 4 ∧ c = 40 then (if q.2.length = 12 then none else some ((3, 3 :: q.2), B))
  else aT2 c k (if q.1 = 4 then (5, aWh q.2) else q) B
def aIv (k : Nat) (q : Nat × List Nat) (B : aB) : Prop := B.1.2.1 ≤ k ∧ B.1.2.2.2 < 160 ∧ (∀ x ∈ B.1.1, x < 160) ∧ B.1.1.length = q.2.count 1 ∧ (q.1 = 3 → aTop q.2 = 3 ∨ aTop q.2 = 5) ∧ q.1 ≤ 6
theorem aIv.ok {k : Nat} {q : Nat × List Nat} {B : aB} (h : aIv k q B) (hk : k < 160) (hl : q.2.length ≤ 12) : aOk q B := by
  obtain ⟨h1, h2, h3, h4, h5, h6⟩ := h
  refine ⟨by omega, ?_, h2, fun ht => ?_⟩
  · rw [h4]; exact Nat.le_trans List.count_le_length hl
  · obtain ⟨o, ho⟩ := aTop_cons ht (by decide)
    rw [ho] at h4
    cases hb : B.1.1 with
    | nil => rw [hb] at h4; simp at h4
    | cons x bl => exact ⟨x, bl, rfl, h3 x (by rw [hb]; exact List.mem_cons_self)⟩
theorem aWh_cnt : ∀ o : List Nat, (aWh o).count 1 = o.count 1
  | [] => rfl
  | a :: o => by
    unfold aWh
    split
    · rename_i h; cases h; rw [aWh_cnt]; simp
    · rfl
theorem aClo_cnt {x : Nat} {o : List Nat} (hx : x ≠ 1) : (aClo (x :: o)).2.count 1 = (x :: o).count 1 := by
  unfold aClo
  split
  · simp [hx]
  · show (aWh o).count 1 = _; rw [aWh_cnt]; simp [hx]
theorem aFac_iv {c : Nat} {o : List Nat} {x : Nat × List Nat} (h : aFac c o = some x) : x.2.count 1 = o.count 1 ∧ x.1 ≠ 3 ∧ x.1 ≤ 6 := by
  unfold aFac at h
  repeat' split at h
  all_goals first | (cases h; done) | (cases h; refine ⟨?_, ?_, ?_⟩ <;> first | exact aWh_cnt o | rfl | simp)
section
variable {Lx : Nat} {xs : Nat → Int32} {d : Nat} {M : zM} {n b : Nat}
theorem rB_z {M M' : zM} {B : aB} {res : Option ((Nat × List Nat) × aB)} {z : Option Int32} (h : rB M B res z M') : z = some (nI 1) ∨ z = some (nI 0) := by
  obtain ⟨-, h⟩ := h
  cases res with
  | none => exact Or.inr h.1
  | some x => exact Or.inl h.1
theorem rQ_z {M M' : zM} {res : Option (Nat × List Nat)} {z : Option Int32} (h : rQ M res z M') : z = some (nI 1) ∨ z = some (nI 0) := by
  obtain ⟨-, h⟩ := h
  cases res with
  | none => exact Or.inr h
  | some x => exact Or.inl h.1
theorem rQ_B {M M' : zM} {B : aB} {res : Option (Nat × List Nat)} {z : Option Int32} (h : rQ M res z M') (hB : AB M B) : rB M B (res.map (fun x => (x, B))) z M' := by
  obtain ⟨hs, h⟩ := h
  cases res with
  | none => exact ⟨hs.up, h, hs.AB hB⟩
  | some x => exact ⟨hs.up, h.1, h.2, hs.AB hB⟩
set_option maxRecDepth 100000 in
set_option maxHeartbeats 4000000 in
theorem r_tok41 {e k : Nat} {t : Nat → Nat} {ts : List (Nat × Nat × Nat)} {q : Nat × List Nat} {B : aB} (hP : M.2.1 = zP0 n b) (hk : MTk M e t ts) (hk2 : k < ts.length) (hq : AQ M q) (hB : AB M B) (hO : aOk q B) (h4 : q.1 ≠ 4) (h6 : q.1 ≤ 6) (hn3 : q.1 = 3 → q.2 ≠ []) {R : Option Int32 → zM → Prop} (hR : ∀ z M', rB M B (aT2 (tMk t ts k) k q B) z M' → R z M') {L : Nat → Value} (hL0 : L 0 = .ref 25) (hL1 : L 1 = .int (nI k)) : Ev Lx xs (d + 4) mM_readToken 41 L [] M (zpost mM_readToken R) := by
  have he := hk.1.2.1
  have hlen := hk.2.2.1.2.1
  refine ev_al dM_readToken_41 rfl (by first | assumption | rfl) ?_
  refine ev_geti dM_readToken_42 fM_134 rfl ?_
  rw [hq.1]
  rcases (show q.1 = 0 ∨ q.1 = 1 ∨ q.1 = 2 ∨ q.1 = 3 ∨ q.1 = 5 ∨ q.1 = 6 by omega) with hst | hst | hst | hst | hst | hst
  · rw [hst]
    refine ev_tin (tgt := 84) dM_readToken_45 (by decide) (by decide) rfl (by decide) ?_
    refine ev_al dM_readToken_84 rfl (by first | assumption | rfl) ?_
    refine ev_il dM_readToken_85 rfl (by first | assumption | rfl) ?_
    refine ev_cV dM_readToken_86 (r_readItem hP hk hk2 hq hB hO) lM_172 rec_M rfl (Nat.le_of_ble_eq_true rfl) rfl (Nat.le_of_ble_eq_true rfl) (fun z M1 hz => ?_)
    rcases rB_z hz with rfl | rfl
    · have hz0 := hz
      refine ev_ret dM_readToken_89 rfl rfl ?_
      apply hR
      unfold aT2
      rw [if_pos hst]
      exact hz0
    · have hz0 := hz
      refine ev_ret dM_readToken_89 rfl rfl ?_
      apply hR
      unfold aT2
      rw [if_pos hst]
      exact hz0
  · rw [hst]
    refine ev_tin (tgt := 90) dM_readToken_45 (by decide) (by decide) rfl (by decide) ?_
    refine ev_al dM_readToken_90 rfl (by first | assumption | rfl) ?_
    refine ev_il dM_readToken_91 rfl (by first | assumption | rfl) ?_
    refine ev_cV dM_readToken_92 (r_readNamed hP hk hk2 hq hB hO) lM_175 rec_M rfl (Nat.le_of_ble_eq_true rfl) rfl (Nat.le_of_ble_eq_true rfl) (fun z M1 hz => ?_)
    rcases rB_z hz with rfl | rfl
    · have hz0 := hz
      refine ev_ret dM_readToken_95 rfl rfl ?_
      apply hR
      unfold aT2
      rw [if_neg (by omega), if_pos hst]
      exact hz0
    · have hz0 := hz
      refine ev_ret dM_readToken_95 rfl rfl ?_
      apply hR
      unfold aT2
      rw [if_neg (by omega), if_pos hst]
      exact hz0
  · rw [hst]
    refine ev_tin (tgt := 96) dM_readToken_45 (by decide) (by decide) rfl (by decide) ?_
    refine ev_al dM_readToken_96 rfl (by first | assumption | rfl) ?_
    refine ev_il dM_readToken_97 rfl (by first | assumption | rfl) ?_
    refine ev_cV dM_readToken_98 (r_readFactor hP hk hk2 hq) lM_178 rec_M rfl (Nat.le_of_ble_eq_true rfl) rfl (Nat.le_of_ble_eq_true rfl) (fun z M1 hz => ?_)
    rcases rQ_z hz with rfl | rfl
    · have hz0 := hz
      refine ev_ret dM_readToken_101 rfl rfl ?_
      apply hR
      unfold aT2
      rw [if_neg (by omega), if_neg (by omega), if_pos hst]
      exact rQ_B hz0 hB
    · have hz0 := hz
      refine ev_ret dM_readToken_101 rfl rfl ?_
      apply hR
      unfold aT2
      rw [if_neg (by omega), if_neg (by omega), if_pos hst]
      exact rQ_B hz0 hB
  · rw [hst]
    refine ev_tin (tgt := 102) dM_readToken_45 (by decide) (by decide) rfl (by decide) ?_
    refine ev_al dM_readToken_102 rfl (by first | assumption | rfl) ?_
    refine ev_il dM_readToken_103 rfl (by first | assumption | rfl) ?_
    refine ev_const (v := nI 41) dM_readToken_104 (by decide) ?_
    refine ev_pV dM_readToken_106 (r_is (M := M) hP hk hk2 (by decide)) lM_153 rec_M rfl (Nat.le_of_ble_eq_true rfl) rfl (Nat.le_of_ble_eq_true rfl) ?_
    refine ev_if0 (tgt := 119) dM_readToken_109 (by decide) (fun h109 => ?_) (fun h109 => ?_)
    · simp only [zcond, zb0, Classical.not_not, Bool.not_eq_false, Bool.not_eq_true, decide_eq_true_eq, decide_eq_false_iff_not] at h109
      refine ev_al dM_readToken_119 rfl (by first | assumption | rfl) ?_
      refine ev_il dM_readToken_120 rfl (by first | assumption | rfl) ?_
      refine ev_cV dM_readToken_121 (r_readFactor hP hk hk2 hq) lM_178 rec_M rfl (Nat.le_of_ble_eq_true rfl) rfl (Nat.le_of_ble_eq_true rfl) (fun z M1 hz => ?_)
      rcases rQ_z hz with rfl | rfl
      · have hz0 := hz
        refine ev_ret dM_readToken_124 rfl rfl ?_
        apply hR
        unfold aT2
        rw [if_neg (by omega), if_neg (by omega), if_neg (by omega), if_pos hst]
        first
        | (rw [if_pos h109]; have h := rQ_B hz0 hB; rw [ho]; exact h)
        | (rw [if_neg h109]; exact rQ_B hz0 hB)
      · have hz0 := hz
        refine ev_ret dM_readToken_124 rfl rfl ?_
        apply hR
        unfold aT2
        rw [if_neg (by omega), if_neg (by omega), if_neg (by omega), if_pos hst]
        first
        | (rw [if_pos h109]; have h := rQ_B hz0 hB; rw [ho]; exact h)
        | (rw [if_neg h109]; exact rQ_B hz0 hB)
    · simp only [zcond, zb0, Classical.not_not, Bool.not_eq_false, Bool.not_eq_true, decide_eq_true_eq, decide_eq_false_iff_not] at h109
      obtain ⟨x, o, ho⟩ : ∃ x o, q = (q.1, x :: o) := by
        obtain ⟨a, l⟩ := q
        cases l with
        | nil => exact absurd rfl (hn3 hst)
        | cons x o => exact ⟨x, o, rfl⟩
      have hq' : AQ M (q.1, x :: o) := by rw [← ho]; exact hq
      refine ev_al dM_readToken_112 rfl (by first | assumption | rfl) ?_
      refine ev_cV dM_readToken_113 (r_close hP hq') lM_168 rec_M rfl (Nat.le_of_ble_eq_true rfl) rfl (Nat.le_of_ble_eq_true rfl) (fun z M1 hz => ?_)
      rcases rQ_z hz with rfl | rfl
      · have hz0 := hz
        refine ev_goto (tgt := 124) dM_readToken_116 (by decide) ?_
        refine ev_ret dM_readToken_124 rfl rfl ?_
        apply hR
        unfold aT2
        rw [if_neg (by omega), if_neg (by omega), if_neg (by omega), if_pos hst]
        first
        | (rw [if_pos h109]; have h := rQ_B hz0 hB; rw [ho]; exact h)
        | (rw [if_neg h109]; exact rQ_B hz0 hB)
      · have hz0 := hz
        refine ev_goto (tgt := 124) dM_readToken_116 (by decide) ?_
        refine ev_ret dM_readToken_124 rfl rfl ?_
        apply hR
        unfold aT2
        rw [if_neg (by omega), if_neg (by omega), if_neg (by omega), if_pos hst]
        first
        | (rw [if_pos h109]; have h := rQ_B hz0 hB; rw [ho]; exact h)
        | (rw [if_neg h109]; exact rQ_B hz0 hB)
  · rw [hst]
    refine ev_tin (tgt := 125) dM_readToken_45 (by decide) (by decide) rfl (by decide) ?_
    refine ev_al dM_readToken_125 rfl (by first | assumption | rfl) ?_
    refine ev_il dM_readToken_126 rfl (by first | assumption | rfl) ?_
    refine ev_cV dM_readToken_127 (r_readBehind hP hk hk2 hq hB hO) lM_181 rec_M rfl (Nat.le_of_ble_eq_true rfl) rfl (Nat.le_of_ble_eq_true rfl) (fun z M1 hz => ?_)
    rcases rB_z hz with rfl | rfl
    · have hz0 := hz
      refine ev_ret dM_readToken_130 rfl rfl ?_
      apply hR
      unfold aT2
      rw [if_neg (by omega), if_neg (by omega), if_neg (by omega), if_neg (by omega), if_pos hst]
      exact hz0
    · have hz0 := hz
      refine ev_ret dM_readToken_130 rfl rfl ?_
      apply hR
      unfold aT2
      rw [if_neg (by omega), if_neg (by omega), if_neg (by omega), if_neg (by omega), if_pos hst]
      exact hz0
  · rw [hst]
    refine ev_tout (tgt := 131) dM_readToken_45 (by decide) (by decide) ?_
    refine ev_al dM_readToken_131 rfl (by first | assumption | rfl) ?_
    refine ev_il dM_readToken_132 rfl (by first | assumption | rfl) ?_
    refine ev_const (v := nI 59) dM_readToken_133 (by decide) ?_
    refine ev_pV dM_readToken_135 (r_is (M := M) hP hk hk2 (by decide)) lM_153 rec_M rfl (Nat.le_of_ble_eq_true rfl) rfl (Nat.le_of_ble_eq_true rfl) ?_
    refine ev_if0 (tgt := 152) dM_readToken_138 (by decide) (fun h138 => ?_) (fun h138 => ?_)
    · simp only [zcond, zb0, Classical.not_not, Bool.not_eq_false, Bool.not_eq_true, decide_eq_true_eq, decide_eq_false_iff_not] at h138
      refine ev_const (v := nI 0) dM_readToken_152 (by decide) ?_
      refine ev_ret dM_readToken_153 rfl rfl ?_
      apply hR
      unfold aT2
      rw [if_neg (by omega), if_neg (by omega), if_neg (by omega), if_neg (by omega), if_neg (by omega)]
      rw [if_neg h138]
      exact rB_n (zSame.rf _ _) hB rfl
    · simp only [zcond, zb0, Classical.not_not, Bool.not_eq_false, Bool.not_eq_true, decide_eq_true_eq, decide_eq_false_iff_not] at h138
      refine ev_al dM_readToken_141 rfl (by first | assumption | rfl) ?_
      refine ev_al dM_readToken_142 rfl (by first | assumption | rfl) ?_
      refine ev_geti dM_readToken_143 fM_143 rfl ?_
      rw [hB.2.2.2.2.1]
      refine ev_il dM_readToken_146 rfl (by first | assumption | rfl) ?_
      refine ev_cV dM_readToken_147 (r_finish (j := B.1.2.2.2) (k := k) hP hO.2.2.1 hq.2.1 hq.2.2.1 hB.2.2.1 hB.2.2.2.1) lM_161 rec_M rfl (Nat.le_of_ble_eq_true rfl) rfl (Nat.le_of_ble_eq_true rfl) (fun z M5 hz => ?_)
      obtain ⟨rfl, hM5⟩ := hz
      refine ev_const (v := nI 1) dM_readToken_150 (by decide) ?_
      refine ev_ret dM_readToken_151 rfl rfl ?_
      apply hR
      unfold aT2
      rw [if_neg (by omega), if_neg (by omega), if_neg (by omega), if_neg (by omega), if_neg (by omega)]
      rw [if_pos h138, hM5]
      exact rB_y (x := ((0, q.2), aFin B q.2.length B.1.2.2.2 k)) ((((zSame.rf sAB M).I (by unfold sAB; omega)).I (by unfold sAB; omega)).I (by unfold sAB; omega)) ((hq.st (x := 0)).keep (by simp [zI_at]) (by simp [zI_at]) (fun i => by simp [zI_at])) hB.fin rfl
set_option maxRecDepth 100000 in
set_option maxHeartbeats 4000000 in
theorem r_readToken {e k : Nat} {t : Nat → Nat} {ts : List (Nat × Nat × Nat)} {q : Nat × List Nat} {B : aB} (hP : M.2.1 = zP0 n b) (hk : MTk M e t ts) (hk2 : k < ts.length) (hq : AQ M q) (hB : AB M B) (hv : aIv k q B) : Ct Lx xs (d + 4) mM_readToken [.ref 25, .int (nI k)] M (rB M B (aTok (tMk t ts k) k q B)) := by
  have he := hk.1.2.1
  have hlen := hk.2.2.1.2.1
  have hv6 := hv.2.2.2.2.2
  unfold Ct
  refine ev_al dM_readToken_0 rfl (by first | assumption | rfl) ?_
  refine ev_geti dM_readToken_1 fM_134 rfl ?_
  rw [hq.1]
  refine ev_const (v := nI 4) dM_readToken_4 (by decide) ?_
  refine ev_icmp (tgt := 29) dM_readToken_5 (by decide) (fun h5 => ?_) (fun h5 => ?_)
  · simp (disch := omega) only [zcond, nI_eq, Classical.not_not] at h5
    refine ev_al dM_readToken_29 rfl (by first | assumption | rfl) ?_
    refine ev_geti dM_readToken_30 fM_134 rfl ?_
    rw [hq.1]
    refine ev_const (v := nI 4) dM_readToken_33 (by decide) ?_
    refine ev_icmp (tgt := 41) dM_readToken_34 (by decide) (fun h34 => ?_) (fun h34 => ?_)
    · simp (disch := omega) only [zcond, nI_eq, Classical.not_not] at h34
      first
      | (exfalso; omega)
      | (have hw2 : (aWh q.2).length ≤ 12 := hA1.2.2.1
         have hv1 : aIv k (5, aWh q.2) B := ⟨hv.1, hv.2.1, hv.2.2.1, hv.2.2.2.1.trans (aWh_cnt q.2).symm, fun h => absurd h (show ¬ 5 = 3 by decide), show 5 ≤ 6 by decide⟩
         refine r_tok41 (M := M1) (q := (5, aWh q.2)) (by rw [hs1.1]; exact hP) (hs1.up.MTk hk) hk2 hA1 (hs1.AB hB) (hv1.ok (by omega) hw2) (show 5 ≠ 4 by decide) (show 5 ≤ 6 by decide) (fun h => absurd h (show ¬ 5 = 3 by decide)) ?_ (by first | assumption | rfl) (by first | assumption | rfl)
         intro z M' hz
         rw [show aTok (tMk t ts k) k q B = aT2 (tMk t ts k) k (5, aWh q.2) B by (unfold aTok; rw [if_neg (fun h => h15 h.2), if_pos h34])]
         obtain ⟨hz1, hz2⟩ := hz
         exact ⟨hs1.up.tr hz1, hz2⟩)
      | (refine r_tok41 hP hk hk2 hq hB (hv.ok (by omega) hq.2.2.1) h34 hv.2.2.2.2.2 (fun h hnil => by have := hv.2.2.2.2.1 h; rw [hnil] at this; simp [aTop] at this) ?_ (by first | assumption | rfl) (by first | assumption | rfl)
         intro z M' hz
         rw [show aTok (tMk t ts k) k q B = aT2 (tMk t ts k) k q B by (unfold aTok; rw [if_neg (fun h => h34 h.1), if_neg h34])]
         exact hz)
    · simp (disch := omega) only [zcond, nI_eq, Classical.not_not] at h34
      refine ev_al dM_readToken_37 rfl (by first | assumption | rfl) ?_
      refine ev_cV dM_readToken_38 (r_whole hP hq) lM_165 rec_M rfl (Nat.le_of_ble_eq_true rfl) rfl (Nat.le_of_ble_eq_true rfl) (fun z M1 hz => ?_)
      obtain ⟨rfl, hs1, hA1⟩ := hz
      first
      | (exfalso; omega)
      | (have hw2 : (aWh q.2).length ≤ 12 := hA1.2.2.1
         have hv1 : aIv k (5, aWh q.2) B := ⟨hv.1, hv.2.1, hv.2.2.1, hv.2.2.2.1.trans (aWh_cnt q.2).symm, fun h => absurd h (show ¬ 5 = 3 by decide), show 5 ≤ 6 by decide⟩
         refine r_tok41 (M := M1) (q := (5, aWh q.2)) (by rw [hs1.1]; exact hP) (hs1.up.MTk hk) hk2 hA1 (hs1.AB hB) (hv1.ok (by omega) hw2) (show 5 ≠ 4 by decide) (show 5 ≤ 6 by decide) (fun h => absurd h (show ¬ 5 = 3 by decide)) ?_ (by first | assumption | rfl) (by first | assumption | rfl)
         intro z M' hz
         rw [show aTok (tMk t ts k) k q B = aT2 (tMk t ts k) k (5, aWh q.2) B by (unfold aTok; rw [if_neg (fun h => h15 h.2), if_pos h34])]
         obtain ⟨hz1, hz2⟩ := hz
         exact ⟨hs1.up.tr hz1, hz2⟩)
      | (refine r_tok41 hP hk hk2 hq hB (hv.ok (by omega) hq.2.2.1) h34 hv.2.2.2.2.2 (fun h hnil => by have := hv.2.2.2.2.1 h; rw [hnil] at this; simp [aTop] at this) ?_ (by first | assumption | rfl) (by first | assumption | rfl)
         intro z M' hz
         rw [show aTok (tMk t ts k) k q B = aT2 (tMk t ts k) k q B by (unfold aTok; rw [if_neg (fun h => h34 h.1), if_neg h34])]
         exact hz)
  · simp (disch := omega) only [zcond, nI_eq, Classical.not_not] at h5
    refine ev_al dM_readToken_8 rfl (by first | assumption | rfl) ?_
    refine ev_il dM_readToken_9 rfl (by first | assumption | rfl) ?_
    refine ev_const (v := nI 40) dM_readToken_10 (by decide) ?_
    refine ev_pV dM_readToken_12 (r_is (M := M) hP hk hk2 (by decide)) lM_153 rec_M rfl (Nat.le_of_ble_eq_true rfl) rfl (Nat.le_of_ble_eq_true rfl) ?_
    refine ev_if0 (tgt := 29) dM_readToken_15 (by decide) (fun h15 => ?_) (fun h15 => ?_)
    · simp only [zcond, zb0, Classical.not_not, Bool.not_eq_false, Bool.not_eq_true, decide_eq_true_eq, decide_eq_false_iff_not] at h15
      refine ev_al dM_readToken_29 rfl (by first | assumption | rfl) ?_
      refine ev_geti dM_readToken_30 fM_134 rfl ?_
      rw [hq.1]
      refine ev_const (v := nI 4) dM_readToken_33 (by decide) ?_
      refine ev_icmp (tgt := 41) dM_readToken_34 (by decide) (fun h34 => ?_) (fun h34 => ?_)
      · simp (disch := omega) only [zcond, nI_eq, Classical.not_not] at h34
        first
        | (exfalso; omega)
        | (have hw2 : (aWh q.2).length ≤ 12 := hA1.2.2.1
           have hv1 : aIv k (5, aWh q.2) B := ⟨hv.1, hv.2.1, hv.2.2.1, hv.2.2.2.1.trans (aWh_cnt q.2).symm, fun h => absurd h (show ¬ 5 = 3 by decide), show 5 ≤ 6 by decide⟩
           refine r_tok41 (M := M1) (q := (5, aWh q.2)) (by rw [hs1.1]; exact hP) (hs1.up.MTk hk) hk2 hA1 (hs1.AB hB) (hv1.ok (by omega) hw2) (show 5 ≠ 4 by decide) (show 5 ≤ 6 by decide) (fun h => absurd h (show ¬ 5 = 3 by decide)) ?_ (by first | assumption | rfl) (by first | assumption | rfl)
           intro z M' hz
           rw [show aTok (tMk t ts k) k q B = aT2 (tMk t ts k) k (5, aWh q.2) B by (unfold aTok; rw [if_neg (fun h => h15 h.2), if_pos h34])]
           obtain ⟨hz1, hz2⟩ := hz
           exact ⟨hs1.up.tr hz1, hz2⟩)
        | (refine r_tok41 hP hk hk2 hq hB (hv.ok (by omega) hq.2.2.1) h34 hv.2.2.2.2.2 (fun h hnil => by have := hv.2.2.2.2.1 h; rw [hnil] at this; simp [aTop] at this) ?_ (by first | assumption | rfl) (by first | assumption | rfl)
           intro z M' hz
           rw [show aTok (tMk t ts k) k q B = aT2 (tMk t ts k) k q B by (unfold aTok; rw [if_neg (fun h => h34 h.1), if_neg h34])]
           exact hz)
      · simp (disch := omega) only [zcond, nI_eq, Classical.not_not] at h34
        refine ev_al dM_readToken_37 rfl (by first | assumption | rfl) ?_
        refine ev_cV dM_readToken_38 (r_whole hP hq) lM_165 rec_M rfl (Nat.le_of_ble_eq_true rfl) rfl (Nat.le_of_ble_eq_true rfl) (fun z M1 hz => ?_)
        obtain ⟨rfl, hs1, hA1⟩ := hz
        first
        | (exfalso; omega)
        | (have hw2 : (aWh q.2).length ≤ 12 := hA1.2.2.1
           have hv1 : aIv k (5, aWh q.2) B := ⟨hv.1, hv.2.1, hv.2.2.1, hv.2.2.2.1.trans (aWh_cnt q.2).symm, fun h => absurd h (show ¬ 5 = 3 by decide), show 5 ≤ 6 by decide⟩
           refine r_tok41 (M := M1) (q := (5, aWh q.2)) (by rw [hs1.1]; exact hP) (hs1.up.MTk hk) hk2 hA1 (hs1.AB hB) (hv1.ok (by omega) hw2) (show 5 ≠ 4 by decide) (show 5 ≤ 6 by decide) (fun h => absurd h (show ¬ 5 = 3 by decide)) ?_ (by first | assumption | rfl) (by first | assumption | rfl)
           intro z M' hz
           rw [show aTok (tMk t ts k) k q B = aT2 (tMk t ts k) k (5, aWh q.2) B by (unfold aTok; rw [if_neg (fun h => h15 h.2), if_pos h34])]
           obtain ⟨hz1, hz2⟩ := hz
           exact ⟨hs1.up.tr hz1, hz2⟩)
        | (refine r_tok41 hP hk hk2 hq hB (hv.ok (by omega) hq.2.2.1) h34 hv.2.2.2.2.2 (fun h hnil => by have := hv.2.2.2.2.1 h; rw [hnil] at this; simp [aTop] at this) ?_ (by first | assumption | rfl) (by first | assumption | rfl)
           intro z M' hz
           rw [show aTok (tMk t ts k) k q B = aT2 (tMk t ts k) k q B by (unfold aTok; rw [if_neg (fun h => h34 h.1), if_neg h34])]
           exact hz)
    · simp only [zcond, zb0, Classical.not_not, Bool.not_eq_false, Bool.not_eq_true, decide_eq_true_eq, decide_eq_false_iff_not] at h15
      refine ev_al dM_readToken_18 rfl (by first | assumption | rfl) ?_
      refine ev_const (v := nI 3) dM_readToken_19 (by decide) ?_
      refine ev_puti dM_readToken_20 fM_134 fwM_state rfl (vp_nar_int _) rfl ?_
      refine ev_al dM_readToken_23 rfl (by first | assumption | rfl) ?_
      refine ev_const (v := nI 3) dM_readToken_24 (by decide) ?_
      by_cases h12 : q.2.length = 12
      · refine ev_pV dM_readToken_25 (r_push_n (M := (zI M 25 32 (nI 3))) hP (hq.st (x := 3)) h12) lM_157 rec_M rfl (Nat.le_of_ble_eq_true rfl) rfl (Nat.le_of_ble_eq_true rfl) ?_
        refine ev_ret dM_readToken_28 rfl rfl ?_
        first
        | (rw [show aTok (tMk t ts k) k q B = none by (unfold aTok; rw [if_pos (And.intro h5 h15), if_pos h12])]
           exact rB_n (zSame.I (S := sAB) (zSame.rf _ M) (by unfold sAB; omega)) hB.st rfl)
        | (rw [show aTok (tMk t ts k) k q B = some ((3, 3 :: q.2), B) by (unfold aTok; rw [if_pos (And.intro h5 h15), if_neg h12]), hM1]
           exact rB_y (x := ((3, 3 :: q.2), B)) (((zSame.I (S := sAB) (zSame.rf _ M) (by unfold sAB; omega)).I (by unfold sAB; omega)).I (by unfold sAB; omega)) ((hq.st (x := 3)).push h12 (by decide)) ((((zSame.rf sAQ M).I (Or.inl ⟨rfl, Or.inr rfl⟩)).I (Or.inr rfl)).I (Or.inl ⟨rfl, Or.inl rfl⟩) |>.AB hB) rfl)
      · refine ev_cV dM_readToken_25 (r_push_y (M := (zI M 25 32 (nI 3))) (x := 3) hP (hq.st (x := 3)) h12) lM_157 rec_M rfl (Nat.le_of_ble_eq_true rfl) rfl (Nat.le_of_ble_eq_true rfl) (fun z M1 hz => ?_)
        obtain ⟨rfl, hM1⟩ := hz
        refine ev_ret dM_readToken_28 rfl rfl ?_
        first
        | (rw [show aTok (tMk t ts k) k q B = none by (unfold aTok; rw [if_pos (And.intro h5 h15), if_pos h12])]
           exact rB_n (zSame.I (S := sAB) (zSame.rf _ M) (by unfold sAB; omega)) hB.st rfl)
        | (rw [show aTok (tMk t ts k) k q B = some ((3, 3 :: q.2), B) by (unfold aTok; rw [if_pos (And.intro h5 h15), if_neg h12]), hM1]
           exact rB_y (x := ((3, 3 :: q.2), B)) (((zSame.I (S := sAB) (zSame.rf _ M) (by unfold sAB; omega)).I (by unfold sAB; omega)).I (by unfold sAB; omega)) ((hq.st (x := 3)).push h12 (by decide)) ((((zSame.rf sAQ M).I (Or.inl ⟨rfl, Or.inr rfl⟩)).I (Or.inr rfl)).I (Or.inl ⟨rfl, Or.inl rfl⟩) |>.AB hB) rfl)
theorem aT2_iv {c k : Nat} {q : Nat × List Nat} {B : aB} {x : (Nat × List Nat) × aB} (hv : aIv k q B) (hk : k < 160) (h : aT2 c k q B = some x) : aIv (k + 1) x.1 x.2 := by
  obtain ⟨h1, h2, h3, h4, h5, h6⟩ := hv
  have hcl : (aTop q.2 = 2 ∨ aTop q.2 = 3 ∨ aTop q.2 = 5) → aIv (k + 1) (aClo q.2) B := by
    intro ht
    obtain ⟨y, hy, ht⟩ : ∃ y, (y = 2 ∨ y = 3 ∨ y = 5) ∧ aTop q.2 = y := ⟨_, ht, rfl⟩
    obtain ⟨o, ho⟩ := aTop_cons ht (by omega)
    rw [ho] at h4 ⊢
    refine ⟨Nat.le_succ_of_le h1, h2, h3, h4.trans (aClo_cnt (by omega)).symm, ?_, ?_⟩
    · unfold aClo; split <;> (intro hh; cases hh)
    · unfold aClo; split
      · exact (show 6 ≤ 6 by decide)
      · exact (show 5 ≤ 6 by decide)
  unfold aT2 at h
  split at h
  · rename_i hq
    unfold aItem at h
    split at h
    · cases h
      refine ⟨show B.1.2.1 + 1 ≤ k + 1 by omega, show B.1.2.1 < 160 by omega, h3, h4, (fun (hh : 1 = 3) => absurd hh (by decide)), show 1 ≤ 6 by decide⟩
    · split at h
      · cases h
        refine ⟨show B.1.2.1 + 1 ≤ k + 1 by omega, show B.1.2.1 < 160 by omega, ?_, ?_, ?_, h6⟩
        · intro y hy
          rcases List.mem_cons.mp hy with rfl | hy
          · show B.1.2.1 < 160; omega
          · exact h3 y hy
        · show B.1.1.length + 1 = (1 :: q.2).count 1
          rw [h4]; simp
        · intro hh; rw [hq] at hh; cases hh
      · split at h
        · rename_i hc
          cases h
          obtain ⟨o, ho⟩ := aTop_cons hc.2 (by decide)
          rw [ho] at h4 ⊢
          refine ⟨Nat.le_succ_of_le h1, h2, fun y hy => h3 y (List.mem_of_mem_tail hy), ?_, (fun (hh : 0 = 3) => absurd hh (by decide)), show 0 ≤ 6 by decide⟩
          show B.1.1.tail.length = o.count 1
          rw [List.length_tail, h4]
          simp
        · cases h
  · split at h
    · unfold aNam at h
      split at h
      · cases h; exact ⟨Nat.le_succ_of_le h1, h2, h3, h4, (fun (hh : 2 = 3) => absurd hh (by decide)), show 2 ≤ 6 by decide⟩
      · split at h
        · cases h
          refine ⟨Nat.le_succ_of_le h1, h2, h3, ?_, fun _ => Or.inr rfl, show 3 ≤ 6 by decide⟩
          show B.1.1.length = (5 :: q.2).count 1
          rw [h4]; simp
        · cases h
    · split at h
      · cases hf : aFac c q.2 with
        | none => rw [hf] at h; cases h
        | some y =>
          rw [hf] at h; cases h
          obtain ⟨g1, g2, g3⟩ := aFac_iv hf
          exact ⟨Nat.le_succ_of_le h1, h2, h3, h4.trans g1.symm, fun hh => absurd hh g2, g3⟩
      · split at h
        · rename_i hq
          split at h
          · cases h; exact hcl (by rcases h5 hq with h | h <;> omega)
          · cases hf : aFac c q.2 with
            | none => rw [hf] at h; cases h
            | some y =>
              rw [hf] at h; cases h
              obtain ⟨g1, g2, g3⟩ := aFac_iv hf
              exact ⟨Nat.le_succ_of_le h1, h2, h3, h4.trans g1.symm, fun hh => absurd hh g2, g3⟩
        · split at h
          · unfold aBeh at h
            split at h
            · cases h; exact ⟨Nat.le_succ_of_le h1, h2, h3, h4, (fun (hh : 2 = 3) => absurd hh (by decide)), show 2 ≤ 6 by decide⟩
            · split at h
              · rename_i hc
                cases h
                exact hcl (by have := hc.2; simp [aIn] at this; omega)
              · split at h
                · cases h; exact ⟨Nat.le_succ_of_le h1, h2, h3, h4, (fun (hh : 0 = 3) => absurd hh (by decide)), show 0 ≤ 6 by decide⟩
                · cases h
          · split at h
            · cases h; exact ⟨Nat.le_succ_of_le h1, h2, h3, h4, (fun (hh : 0 = 3) => absurd hh (by decide)), show 0 ≤ 6 by decide⟩
            · cases h
theorem aTok_iv {c k : Nat} {q : Nat × List Nat} {B : aB} {x : (Nat × List Nat) × aB} (hv : aIv k q B) (hk : k < 160) (h : aTok c k q B = some x) : aIv (k + 1) x.1 x.2 := by
  unfold aTok at h
  split at h
  · split at h
    · cases h
    · cases h
      refine ⟨by have := hv.1; show B.1.2.1 ≤ k + 1; omega, hv.2.1, hv.2.2.1, ?_, fun _ => Or.inl rfl, show 3 ≤ 6 by decide⟩
      show B.1.1.length = (3 :: q.2).count 1
      rw [hv.2.2.2.1]; simp
  · refine aT2_iv ?_ hk h
    split
    · exact ⟨hv.1, hv.2.1, hv.2.2.1, hv.2.2.2.1.trans (aWh_cnt q.2).symm, (fun (hh : 5 = 3) => absurd hh (by decide)), show 5 ≤ 6 by decide⟩
    · exact hv
/-- all tokens: where it ends, in which state -/
def aRun (mk : Nat → Nat) : Nat → Nat → (Nat × List Nat) → aB → Nat × (Nat × List Nat) × aB
  | 0, k, q, B => (k, q, B)
  | f + 1, k, q, B => match aTok (mk k) k q B with
    | some x => aRun mk f (k + 1) x.1 x.2
    | none => (k, q, B)
set_option maxRecDepth 100000 in
set_option maxHeartbeats 4000000 in
theorem r_readL {e : Nat} {t : Nat → Nat} {ts : List (Nat × Nat × Nat)} {Q : zQ} : ∀ (f k : Nat) (q : Nat × List Nat) (B : aB) (M : zM) (L : Nat → Value), k + f = ts.length → M.2.1 = zP0 n b → MTk M e t ts → AQ M q → AB M B → aIv k q B → L 0 = .ref 25 → L 1 = .int (nI k) → (∀ (M' : zM) (L' : Nat → Value), zSame sAB M M' → (((aRun (tMk t ts) f k q B).1 = ts.length ∧ AQ M' (aRun (tMk t ts) f k q B).2.1) ∨ (aRun (tMk t ts) f k q B).1 < ts.length) → AB M' (aRun (tMk t ts) f k q B).2.2 → L' 0 = .ref 25 → L' 1 = .int (nI (aRun (tMk t ts) f k q B).1) → Ev Lx xs (d + 5) mM_read 49 L' [] M' Q) → Ev Lx xs (d + 5) mM_read 27 L [] M Q := by
  intro f
  induction f with
  | zero =>
    intro k q B M L hf hP hk hq hB hv hL0 hL1 hR
    have he := hk.1.2.1
    have hlen := hk.2.2.1.2.1
    refine ev_il dM_read_27 rfl (by first | assumption | rfl) ?_
    refine ev_al dM_read_28 rfl (by first | assumption | rfl) ?_
    refine ev_geti dM_read_29 fM_106 rfl ?_
    rw [hk.2.1.1]
    refine ev_icmp (tgt := 49) dM_read_32 (by decide) (fun h32 => ?_) (fun h32 => ?_)
    · try simp (disch := omega) only [zcond, nI_ltI, nI_leI, nI_eq, zb0, Classical.not_not, Bool.not_eq_false, Bool.not_eq_true, Nat.not_lt, Nat.not_le] at h32
      exact hR M L (zSame.rf _ _) (Or.inl ⟨show k = ts.length by omega, hq⟩) hB hL0 hL1
    · first | omega | (simp (disch := omega) only [zcond, nI_ltI, nI_leI, nI_eq] at h32; omega)
  | succ f ih =>
    intro k q B M L hf hP hk hq hB hv hL0 hL1 hR
    have he := hk.1.2.1
    have hlen := hk.2.2.1.2.1
    refine ev_il dM_read_27 rfl (by first | assumption | rfl) ?_
    refine ev_al dM_read_28 rfl (by first | assumption | rfl) ?_
    refine ev_geti dM_read_29 fM_106 rfl ?_
    rw [hk.2.1.1]
    refine ev_icmp (tgt := 49) dM_read_32 (by decide) (fun h32 => ?_) (fun h32 => ?_)
    · first | omega | (simp (disch := omega) only [zcond, nI_ltI, nI_leI, nI_eq] at h32; omega)
    · try simp (disch := omega) only [zcond, nI_ltI, nI_leI, nI_eq, zb0, Classical.not_not, Bool.not_eq_false, Bool.not_eq_true, Nat.not_lt, Nat.not_le] at h32
      refine ev_al dM_read_35 rfl (by first | assumption | rfl) ?_
      refine ev_il dM_read_36 rfl (by first | assumption | rfl) ?_
      refine ev_cV dM_read_37 (r_readToken hP hk (by omega) hq hB hv) lM_184 rec_M rfl (Nat.le_of_ble_eq_true rfl) rfl (Nat.le_of_ble_eq_true rfl) (fun z M1 hz => ?_)
      obtain ⟨hs1, hz⟩ := hz
      cases hT : aTok (tMk t ts k) k q B
      · rw [hT] at hz
        obtain ⟨rfl, hB1⟩ := hz
        refine ev_if0 (tgt := 49) dM_read_40 (by decide) (fun h40 => ?_) (fun h40 => ?_)
        · simp only [aRun, hT] at hR
          exact hR M1 L hs1 (Or.inr (by omega)) hB1 hL0 hL1
        · exact absurd (show nI 0 = nI 0 from rfl) h40
      · rename_i x
        rw [hT] at hz
        obtain ⟨rfl, hA1, hB1⟩ := hz
        refine ev_if0 (tgt := 49) dM_read_40 (by decide) (fun h40 => ?_) (fun h40 => ?_)
        · exact absurd h40 (show ¬ nI 1 = nI 0 by decide)
        · refine ev_inc1 dM_read_43 (by first | assumption | rfl) ?_
          refine ev_goto (tgt := 27) dM_read_46 (by decide) ?_
          refine ih (k + 1) x.1 x.2 M1 _ (by omega) (by rw [hs1.1]; exact hP) (hs1.MTk hk) hA1 hB1 (aTok_iv hv (by omega) hT) (by first | assumption | rfl) rfl ?_
          intro M' L' hs
          simp only [aRun, hT] at hR
          exact hR M' L' (hs1.tr hs)
def aFl (e : Nat) (ts : List (Nat × Nat × Nat)) (X : Nat × (Nat × List Nat) × aB) : Int32 := if X.1 = ts.length ∧ X.2.1.1 = 0 ∧ X.2.1.2.length = 0 then -1 else if X.1 < ts.length then nI (tk ts X.1).1 else nI e
def sRd : Nat → Nat → Prop := fun o i => sAB o i ∨ (o = 25 ∧ i = 29)
theorem aRun_st (mk : Nat → Nat) : ∀ (f k : Nat) (q : Nat × List Nat) (B : aB), aIv k q B → k + f ≤ 160 → (aRun mk f k q B).2.1.1 ≤ 6
  | 0, k, q, B, hv, _ => hv.2.2.2.2.2
  | f + 1, k, q, B, hv, hk => by
    unfold aRun
    split
    · rename_i x hx
      exact aRun_st mk f (k + 1) x.1 x.2 (aTok_iv hv (by omega) hx) (by omega)
    · exact hv.2.2.2.2.2
set_option maxRecDepth 100000 in
set_option maxHeartbeats 4000000 in
theorem r_read {e cur : Nat} {t : Nat → Nat} {ts : List (Nat × Nat × Nat)} (hP : M.2.1 = zP0 n b) (hk : MTk M e t ts) (hcur : M.1 25 35 = nI cur) (hcur2 : cur < 160) : Ct Lx xs (d + 5) mM_read [.ref 25] M (fun z M' => z = none ∧ zSame sRd M M' ∧ AB M' (aRun (tMk t ts) ts.length 0 (0, []) (([], 0, 0, cur), M.1 35, M.1 36, M.1 37, M.1 38, M.1 39)).2.2 ∧ M'.1 25 29 = aFl e ts (aRun (tMk t ts) ts.length 0 (0, []) (([], 0, 0, cur), M.1 35, M.1 36, M.1 37, M.1 38, M.1 39))) := by
  unfold Ct
  have he := hk.1.2.1
  have hlen := hk.2.2.1.2.1
  refine ev_al dM_read_0 rfl (by first | assumption | rfl) ?_
  refine ev_const (v := nI 0) dM_read_1 (by decide) ?_
  refine ev_puti dM_read_2 fM_127 fwM_open rfl (vp_nar_int _) rfl ?_
  refine ev_al dM_read_5 rfl (by first | assumption | rfl) ?_
  refine ev_const (v := nI 0) dM_read_6 (by decide) ?_
  refine ev_puti dM_read_7 fM_140 fwM_blocks rfl (vp_nar_int _) rfl ?_
  refine ev_al dM_read_10 rfl (by first | assumption | rfl) ?_
  refine ev_const (v := nI 0) dM_read_11 (by decide) ?_
  refine ev_puti dM_read_12 fM_137 fwM_begun rfl (vp_nar_int _) rfl ?_
  refine ev_al dM_read_15 rfl (by first | assumption | rfl) ?_
  refine ev_const (v := nI 0) dM_read_16 (by decide) ?_
  refine ev_puti dM_read_17 fM_146 fwM_items rfl (vp_nar_int _) rfl ?_
  refine ev_al dM_read_20 rfl (by first | assumption | rfl) ?_
  refine ev_const (v := nI 0) dM_read_21 (by decide) ?_
  refine ev_puti dM_read_22 fM_134 fwM_state rfl (vp_nar_int _) rfl ?_
  refine ev_const (v := nI 0) dM_read_25 (by decide) ?_
  refine ev_is dM_read_26 rfl (Nat.le_of_ble_eq_true rfl) ?_
  have hs0 : zSame sAB M _ := ((((((zSame.rf sAB M).I (o := 25) (k := 30) (x := nI 0) (by unfold sAB; omega)).I (o := 25) (k := 33) (x := nI 0) (by unfold sAB; omega)).I (o := 25) (k := 15) (x := nI 0) (by unfold sAB; omega)).I (o := 25) (k := 14) (x := nI 0) (by unfold sAB; omega)).I (o := 25) (k := 32) (x := nI 0) (by unfold sAB; omega))
  refine r_readL (ts := ts) (e := e) (t := t) ts.length 0 (0, []) (([], 0, 0, cur), M.1 35, M.1 36, M.1 37, M.1 38, M.1 39) _ _ (by omega) hP (hs0.MTk hk) ?_ ?_ ⟨Nat.le_refl 0, hcur2, (fun x hx => by simp at hx), rfl, (fun (hh : 0 = 3) => absurd hh (by decide)), show 0 ≤ 6 by decide⟩ rfl rfl ?_
  · exact ⟨zI_s _ _ _ _, by simp [zI_at], by simp, fun i hi => by simp at hi, fun x hx => by simp at hx⟩
  · exact ⟨by simp [zI_at], fun i hi => by simp at hi, by simp [zI_at], by simp [zI_at], by simpa [zI_at] using hcur, by simp [zI_fo], by simp [zI_fo], by simp [zI_fo], by simp [zI_fo], by simp [zI_fo]⟩
  · intro M2 L2 hs2' hend' hB2 a0 a1
    have hs2 := hs0.tr hs2'
    have hk3 := hs2.MTk hk
    have hP : M2.2.1 = zP0 n b := by rw [hs2.1]; exact hP
    generalize hX : aRun (tMk t ts) ts.length 0 (0, []) (([], 0, 0, cur), M.1 35, M.1 36, M.1 37, M.1 38, M.1 39) = X at hend' hB2 a1 ⊢
    have hX1 : X.1 ≤ ts.length := by rcases hend' with h | h <;> omega
    have hend : X.1 = ts.length → AQ M2 X.2.1 := by
      intro h
      rcases hend' with h' | h'
      · exact h'.2
      · omega
    have hx61 : X.1 = ts.length → X.2.1.1 < 2 ^ 31 ∧ X.2.1.2.length < 2 ^ 31 := fun h => ⟨by have := aRun_st (tMk t ts) ts.length 0 (0, []) (([], 0, 0, cur), M.1 35, M.1 36, M.1 37, M.1 38, M.1 39) ⟨Nat.le_refl 0, hcur2, (fun x hx => by simp at hx), rfl, (fun (hh : 0 = 3) => absurd hh (by decide)), show 0 ≤ 6 by decide⟩ (by omega); rw [hX] at this; omega, by have := (hend h).2.2.1; omega⟩
    refine ev_il dM_read_49 rfl (by first | assumption | rfl) ?_
    refine ev_al dM_read_50 rfl (by first | assumption | rfl) ?_
    refine ev_geti dM_read_51 fM_106 rfl ?_
    rw [hk3.2.1.1]
    refine ev_icmp (tgt := 75) dM_read_54 (by decide) (fun h54 => ?_) (fun h54 => ?_)
    · try simp (disch := omega) only [zcond, nI_ltI, nI_leI, nI_eq, zb0, Classical.not_not, Bool.not_eq_false, Bool.not_eq_true, Nat.not_lt, Nat.not_le] at h54
      refine ev_const (v := nI 0) dM_read_75 (by decide) ?_
      refine ev_is dM_read_76 rfl (Nat.le_of_ble_eq_true rfl) ?_
      refine ev_al dM_read_77 rfl (by first | assumption | rfl) ?_
      refine ev_il dM_read_78 rfl (by first | assumption | rfl) ?_
      refine ev_if0 (tgt := 86) dM_read_79 (by decide) (fun h79 => ?_) (fun h79 => ?_)
      · simp only [zcond] at h79
        refine ev_il dM_read_86 rfl (by first | assumption | rfl) ?_
        refine ev_al dM_read_87 rfl (by first | assumption | rfl) ?_
        refine ev_geti dM_read_88 fM_106 rfl ?_
        rw [hk3.2.1.1]
        refine ev_icmp (tgt := 103) dM_read_91 (by decide) (fun h91 => ?_) (fun h91 => ?_)
        · try simp (disch := omega) only [zcond, nI_ltI, nI_leI, nI_eq, zb0, Classical.not_not, Bool.not_eq_false, Bool.not_eq_true, Nat.not_lt, Nat.not_le] at h91
          refine ev_al dM_read_103 rfl (by first | assumption | rfl) ?_
          refine ev_geti dM_read_104 fM_103 rfl ?_
          try rw [hk3.1.1]
          refine ev_puti dM_read_107 fM_69 fwM_fault rfl (vp_nar_int _) rfl ?_
          refine ev_vret dM_read_110 rfl ?_
          have hs3 : zSame sRd M (zI M2 25 29 (aFl e ts X)) := (hs2.weak (fun o i h => Or.inl h)).I (Or.inr ⟨rfl, rfl⟩)
          have hB3 : AB (zI M2 25 29 (aFl e ts X)) X.2.2 := by
            obtain ⟨g1, g2, g3, g4, g5, g6, g7, g8, g9, g10⟩ := hB2
            exact ⟨(zI_k (by omega)).trans g1, fun i hi => (zI_o (by omega)).trans (g2 i hi), (zI_k (by omega)).trans g3, (zI_k (by omega)).trans g4, (zI_k (by omega)).trans g5, (zI_fo (by omega)).trans g6, (zI_fo (by omega)).trans g7, (zI_fo (by omega)).trans g8, (zI_fo (by omega)).trans g9, (zI_fo (by omega)).trans g10⟩
          have key : ∀ v, v = aFl e ts X → ((none : Option Int32) = none ∧ zSame sRd M (zI M2 25 29 v) ∧ AB (zI M2 25 29 v) X.2.2 ∧ (zI M2 25 29 v).1 25 29 = aFl e ts X) := by
            intro v hv; subst hv; exact ⟨rfl, hs3, hB3, zI_s _ _ _ _⟩
          first
          | exact (h79 rfl).elim
          | exact (h79 trivial).elim
          | exact absurd h79 (show ¬ nI 1 = nI 0 by decide)
          | (apply key
             unfold aFl
             (repeat' split) <;> first | rfl | (exfalso; omega))
        · try simp (disch := omega) only [zcond, nI_ltI, nI_leI, nI_eq, zb0, Classical.not_not, Bool.not_eq_false, Bool.not_eq_true, Nat.not_lt, Nat.not_le] at h91
          refine ev_al dM_read_94 rfl (by first | assumption | rfl) ?_
          refine ev_getrP dM_read_95 fM_16 rfl (zq (q := 28) hP rfl) ?_
          refine ev_il dM_read_98 rfl (by first | assumption | rfl) ?_
          refine ev_aldN dM_read_99 rfl rfl (by omega) ?_
          rw [(hk3.2.1.2 X.1 _ (tk_at h91)).1]
          refine ev_goto (tgt := 107) dM_read_100 (by decide) ?_
          try rw [hk3.1.1]
          refine ev_puti dM_read_107 fM_69 fwM_fault rfl (vp_nar_int _) rfl ?_
          refine ev_vret dM_read_110 rfl ?_
          have hs3 : zSame sRd M (zI M2 25 29 (aFl e ts X)) := (hs2.weak (fun o i h => Or.inl h)).I (Or.inr ⟨rfl, rfl⟩)
          have hB3 : AB (zI M2 25 29 (aFl e ts X)) X.2.2 := by
            obtain ⟨g1, g2, g3, g4, g5, g6, g7, g8, g9, g10⟩ := hB2
            exact ⟨(zI_k (by omega)).trans g1, fun i hi => (zI_o (by omega)).trans (g2 i hi), (zI_k (by omega)).trans g3, (zI_k (by omega)).trans g4, (zI_k (by omega)).trans g5, (zI_fo (by omega)).trans g6, (zI_fo (by omega)).trans g7, (zI_fo (by omega)).trans g8, (zI_fo (by omega)).trans g9, (zI_fo (by omega)).trans g10⟩
          have key : ∀ v, v = aFl e ts X → ((none : Option Int32) = none ∧ zSame sRd M (zI M2 25 29 v) ∧ AB (zI M2 25 29 v) X.2.2 ∧ (zI M2 25 29 v).1 25 29 = aFl e ts X) := by
            intro v hv; subst hv; exact ⟨rfl, hs3, hB3, zI_s _ _ _ _⟩
          first
          | exact (h79 rfl).elim
          | exact (h79 trivial).elim
          | exact absurd h79 (show ¬ nI 1 = nI 0 by decide)
          | (apply key
             unfold aFl
             (repeat' split) <;> first | rfl | (exfalso; omega))
      · simp only [zcond] at h79
        refine ev_const (v := -1) dM_read_82 (by decide) ?_
        refine ev_goto (tgt := 107) dM_read_83 (by decide) ?_
        try rw [hk3.1.1]
        refine ev_puti dM_read_107 fM_69 fwM_fault rfl (vp_nar_int _) rfl ?_
        refine ev_vret dM_read_110 rfl ?_
        have hs3 : zSame sRd M (zI M2 25 29 (aFl e ts X)) := (hs2.weak (fun o i h => Or.inl h)).I (Or.inr ⟨rfl, rfl⟩)
        have hB3 : AB (zI M2 25 29 (aFl e ts X)) X.2.2 := by
          obtain ⟨g1, g2, g3, g4, g5, g6, g7, g8, g9, g10⟩ := hB2
          exact ⟨(zI_k (by omega)).trans g1, fun i hi => (zI_o (by omega)).trans (g2 i hi), (zI_k (by omega)).trans g3, (zI_k (by omega)).trans g4, (zI_k (by omega)).trans g5, (zI_fo (by omega)).trans g6, (zI_fo (by omega)).trans g7, (zI_fo (by omega)).trans g8, (zI_fo (by omega)).trans g9, (zI_fo (by omega)).trans g10⟩
        have key : ∀ v, v = aFl e ts X → ((none : Option Int32) = none ∧ zSame sRd M (zI M2 25 29 v) ∧ AB (zI M2 25 29 v) X.2.2 ∧ (zI M2 25 29 v).1 25 29 = aFl e ts X) := by
          intro v hv; subst hv; exact ⟨rfl, hs3, hB3, zI_s _ _ _ _⟩
        first
        | exact (h79 rfl).elim
        | exact (h79 trivial).elim
        | exact absurd h79 (show ¬ nI 1 = nI 0 by decide)
        | (apply key
           unfold aFl
           (repeat' split) <;> first | rfl | (exfalso; omega))
    · try simp (disch := omega) only [zcond, nI_ltI, nI_leI, nI_eq, zb0, Classical.not_not, Bool.not_eq_false, Bool.not_eq_true, Nat.not_lt, Nat.not_le] at h54
      refine ev_al dM_read_57 rfl (by first | assumption | rfl) ?_
      refine ev_geti dM_read_58 fM_134 rfl ?_
      rw [(hend (by omega)).1]
      refine ev_if0 (tgt := 75) dM_read_61 (by decide) (fun h61 => ?_) (fun h61 => ?_)
      · simp (disch := omega) only [zcond, nI_eq, Classical.not_not] at h61
        refine ev_const (v := nI 0) dM_read_75 (by decide) ?_
        refine ev_is dM_read_76 rfl (Nat.le_of_ble_eq_true rfl) ?_
        refine ev_al dM_read_77 rfl (by first | assumption | rfl) ?_
        refine ev_il dM_read_78 rfl (by first | assumption | rfl) ?_
        refine ev_if0 (tgt := 86) dM_read_79 (by decide) (fun h79 => ?_) (fun h79 => ?_)
        · simp only [zcond] at h79
          refine ev_il dM_read_86 rfl (by first | assumption | rfl) ?_
          refine ev_al dM_read_87 rfl (by first | assumption | rfl) ?_
          refine ev_geti dM_read_88 fM_106 rfl ?_
          rw [hk3.2.1.1]
          refine ev_icmp (tgt := 103) dM_read_91 (by decide) (fun h91 => ?_) (fun h91 => ?_)
          · try simp (disch := omega) only [zcond, nI_ltI, nI_leI, nI_eq, zb0, Classical.not_not, Bool.not_eq_false, Bool.not_eq_true, Nat.not_lt, Nat.not_le] at h91
            refine ev_al dM_read_103 rfl (by first | assumption | rfl) ?_
            refine ev_geti dM_read_104 fM_103 rfl ?_
            try rw [hk3.1.1]
            refine ev_puti dM_read_107 fM_69 fwM_fault rfl (vp_nar_int _) rfl ?_
            refine ev_vret dM_read_110 rfl ?_
            have hs3 : zSame sRd M (zI M2 25 29 (aFl e ts X)) := (hs2.weak (fun o i h => Or.inl h)).I (Or.inr ⟨rfl, rfl⟩)
            have hB3 : AB (zI M2 25 29 (aFl e ts X)) X.2.2 := by
              obtain ⟨g1, g2, g3, g4, g5, g6, g7, g8, g9, g10⟩ := hB2
              exact ⟨(zI_k (by omega)).trans g1, fun i hi => (zI_o (by omega)).trans (g2 i hi), (zI_k (by omega)).trans g3, (zI_k (by omega)).trans g4, (zI_k (by omega)).trans g5, (zI_fo (by omega)).trans g6, (zI_fo (by omega)).trans g7, (zI_fo (by omega)).trans g8, (zI_fo (by omega)).trans g9, (zI_fo (by omega)).trans g10⟩
            have key : ∀ v, v = aFl e ts X → ((none : Option Int32) = none ∧ zSame sRd M (zI M2 25 29 v) ∧ AB (zI M2 25 29 v) X.2.2 ∧ (zI M2 25 29 v).1 25 29 = aFl e ts X) := by
              intro v hv; subst hv; exact ⟨rfl, hs3, hB3, zI_s _ _ _ _⟩
            first
            | exact (h79 rfl).elim
            | exact (h79 trivial).elim
            | exact absurd h79 (show ¬ nI 1 = nI 0 by decide)
            | (apply key
               unfold aFl
               (repeat' split) <;> first | rfl | (exfalso; omega))
          · try simp (disch := omega) only [zcond, nI_ltI, nI_leI, nI_eq, zb0, Classical.not_not, Bool.not_eq_false, Bool.not_eq_true, Nat.not_lt, Nat.not_le] at h91
            refine ev_al dM_read_94 rfl (by first | assumption | rfl) ?_
            refine ev_getrP dM_read_95 fM_16 rfl (zq (q := 28) hP rfl) ?_
            refine ev_il dM_read_98 rfl (by first | assumption | rfl) ?_
            refine ev_aldN dM_read_99 rfl rfl (by omega) ?_
            rw [(hk3.2.1.2 X.1 _ (tk_at h91)).1]
            refine ev_goto (tgt := 107) dM_read_100 (by decide) ?_
            try rw [hk3.1.1]
            refine ev_puti dM_read_107 fM_69 fwM_fault rfl (vp_nar_int _) rfl ?_
            refine ev_vret dM_read_110 rfl ?_
            have hs3 : zSame sRd M (zI M2 25 29 (aFl e ts X)) := (hs2.weak (fun o i h => Or.inl h)).I (Or.inr ⟨rfl, rfl⟩)
            have hB3 : AB (zI M2 25 29 (aFl e ts X)) X.2.2 := by
              obtain ⟨g1, g2, g3, g4, g5, g6, g7, g8, g9, g10⟩ := hB2
              exact ⟨(zI_k (by omega)).trans g1, fun i hi => (zI_o (by omega)).trans (g2 i hi), (zI_k (by omega)).trans g3, (zI_k (by omega)).trans g4, (zI_k (by omega)).trans g5, (zI_fo (by omega)).trans g6, (zI_fo (by omega)).trans g7, (zI_fo (by omega)).trans g8, (zI_fo (by omega)).trans g9, (zI_fo (by omega)).trans g10⟩
            have key : ∀ v, v = aFl e ts X → ((none : Option Int32) = none ∧ zSame sRd M (zI M2 25 29 v) ∧ AB (zI M2 25 29 v) X.2.2 ∧ (zI M2 25 29 v).1 25 29 = aFl e ts X) := by
              intro v hv; subst hv; exact ⟨rfl, hs3, hB3, zI_s _ _ _ _⟩
            first
            | exact (h79 rfl).elim
            | exact (h79 trivial).elim
            | exact absurd h79 (show ¬ nI 1 = nI 0 by decide)
            | (apply key
               unfold aFl
               (repeat' split) <;> first | rfl | (exfalso; omega))
        · simp only [zcond] at h79
          refine ev_const (v := -1) dM_read_82 (by decide) ?_
          refine ev_goto (tgt := 107) dM_read_83 (by decide) ?_
          try rw [hk3.1.1]
          refine ev_puti dM_read_107 fM_69 fwM_fault rfl (vp_nar_int _) rfl ?_
          refine ev_vret dM_read_110 rfl ?_
          have hs3 : zSame sRd M (zI M2 25 29 (aFl e ts X)) := (hs2.weak (fun o i h => Or.inl h)).I (Or.inr ⟨rfl, rfl⟩)
          have hB3 : AB (zI M2 25 29 (aFl e ts X)) X.2.2 := by
            obtain ⟨g1, g2, g3, g4, g5, g6, g7, g8, g9, g10⟩ := hB2
            exact ⟨(zI_k (by omega)).trans g1, fun i hi => (zI_o (by omega)).trans (g2 i hi), (zI_k (by omega)).trans g3, (zI_k (by omega)).trans g4, (zI_k (by omega)).trans g5, (zI_fo (by omega)).trans g6, (zI_fo (by omega)).trans g7, (zI_fo (by omega)).trans g8, (zI_fo (by omega)).trans g9, (zI_fo (by omega)).trans g10⟩
          have key : ∀ v, v = aFl e ts X → ((none : Option Int32) = none ∧ zSame sRd M (zI M2 25 29 v) ∧ AB (zI M2 25 29 v) X.2.2 ∧ (zI M2 25 29 v).1 25 29 = aFl e ts X) := by
            intro v hv; subst hv; exact ⟨rfl, hs3, hB3, zI_s _ _ _ _⟩
          first
          | exact (h79 rfl).elim
          | exact (h79 trivial).elim
          | exact absurd h79 (show ¬ nI 1 = nI 0 by decide)
          | (apply key
             unfold aFl
             (repeat' split) <;> first | rfl | (exfalso; omega))
      · simp (disch := omega) only [zcond, nI_eq, Classical.not_not] at h61
        refine ev_al dM_read_64 rfl (by first | assumption | rfl) ?_
        refine ev_geti dM_read_65 fM_127 rfl ?_
        rw [(hend (by omega)).2.1]
        refine ev_if0 (tgt := 75) dM_read_68 (by decide) (fun h68 => ?_) (fun h68 => ?_)
        · simp (disch := omega) only [zcond, nI_eq, Classical.not_not] at h68
          refine ev_const (v := nI 0) dM_read_75 (by decide) ?_
          refine ev_is dM_read_76 rfl (Nat.le_of_ble_eq_true rfl) ?_
          refine ev_al dM_read_77 rfl (by first | assumption | rfl) ?_
          refine ev_il dM_read_78 rfl (by first | assumption | rfl) ?_
          refine ev_if0 (tgt := 86) dM_read_79 (by decide) (fun h79 => ?_) (fun h79 => ?_)
          · simp only [zcond] at h79
            refine ev_il dM_read_86 rfl (by first | assumption | rfl) ?_
            refine ev_al dM_read_87 rfl (by first | assumption | rfl) ?_
            refine ev_geti dM_read_88 fM_106 rfl ?_
            rw [hk3.2.1.1]
            refine ev_icmp (tgt := 103) dM_read_91 (by decide) (fun h91 => ?_) (fun h91 => ?_)
            · try simp (disch := omega) only [zcond, nI_ltI, nI_leI, nI_eq, zb0, Classical.not_not, Bool.not_eq_false, Bool.not_eq_true, Nat.not_lt, Nat.not_le] at h91
              refine ev_al dM_read_103 rfl (by first | assumption | rfl) ?_
              refine ev_geti dM_read_104 fM_103 rfl ?_
              try rw [hk3.1.1]
              refine ev_puti dM_read_107 fM_69 fwM_fault rfl (vp_nar_int _) rfl ?_
              refine ev_vret dM_read_110 rfl ?_
              have hs3 : zSame sRd M (zI M2 25 29 (aFl e ts X)) := (hs2.weak (fun o i h => Or.inl h)).I (Or.inr ⟨rfl, rfl⟩)
              have hB3 : AB (zI M2 25 29 (aFl e ts X)) X.2.2 := by
                obtain ⟨g1, g2, g3, g4, g5, g6, g7, g8, g9, g10⟩ := hB2
                exact ⟨(zI_k (by omega)).trans g1, fun i hi => (zI_o (by omega)).trans (g2 i hi), (zI_k (by omega)).trans g3, (zI_k (by omega)).trans g4, (zI_k (by omega)).trans g5, (zI_fo (by omega)).trans g6, (zI_fo (by omega)).trans g7, (zI_fo (by omega)).trans g8, (zI_fo (by omega)).trans g9, (zI_fo (by omega)).trans g10⟩
              have key : ∀ v, v = aFl e ts X → ((none : Option Int32) = none ∧ zSame sRd M (zI M2 25 29 v) ∧ AB (zI M2 25 29 v) X.2.2 ∧ (zI M2 25 29 v).1 25 29 = aFl e ts X) := by
                intro v hv; subst hv; exact ⟨rfl, hs3, hB3, zI_s _ _ _ _⟩
              first
              | exact (h79 rfl).elim
              | exact (h79 trivial).elim
              | exact absurd h79 (show ¬ nI 1 = nI 0 by decide)
              | (apply key
                 unfold aFl
                 (repeat' split) <;> first | rfl | (exfalso; omega))
            · try simp (disch := omega) only [zcond, nI_ltI, nI_leI, nI_eq, zb0, Classical.not_not, Bool.not_eq_false, Bool.not_eq_true, Nat.not_lt, Nat.not_le] at h91
              refine ev_al dM_read_94 rfl (by first | assumption | rfl) ?_
              refine ev_getrP dM_read_95 fM_16 rfl (zq (q := 28) hP rfl) ?_
              refine ev_il dM_read_98 rfl (by first | assumption | rfl) ?_
              refine ev_aldN dM_read_99 rfl rfl (by omega) ?_
              rw [(hk3.2.1.2 X.1 _ (tk_at h91)).1]
              refine ev_goto (tgt := 107) dM_read_100 (by decide) ?_
              try rw [hk3.1.1]
              refine ev_puti dM_read_107 fM_69 fwM_fault rfl (vp_nar_int _) rfl ?_
              refine ev_vret dM_read_110 rfl ?_
              have hs3 : zSame sRd M (zI M2 25 29 (aFl e ts X)) := (hs2.weak (fun o i h => Or.inl h)).I (Or.inr ⟨rfl, rfl⟩)
              have hB3 : AB (zI M2 25 29 (aFl e ts X)) X.2.2 := by
                obtain ⟨g1, g2, g3, g4, g5, g6, g7, g8, g9, g10⟩ := hB2
                exact ⟨(zI_k (by omega)).trans g1, fun i hi => (zI_o (by omega)).trans (g2 i hi), (zI_k (by omega)).trans g3, (zI_k (by omega)).trans g4, (zI_k (by omega)).trans g5, (zI_fo (by omega)).trans g6, (zI_fo (by omega)).trans g7, (zI_fo (by omega)).trans g8, (zI_fo (by omega)).trans g9, (zI_fo (by omega)).trans g10⟩
              have key : ∀ v, v = aFl e ts X → ((none : Option Int32) = none ∧ zSame sRd M (zI M2 25 29 v) ∧ AB (zI M2 25 29 v) X.2.2 ∧ (zI M2 25 29 v).1 25 29 = aFl e ts X) := by
                intro v hv; subst hv; exact ⟨rfl, hs3, hB3, zI_s _ _ _ _⟩
              first
              | exact (h79 rfl).elim
              | exact (h79 trivial).elim
              | exact absurd h79 (show ¬ nI 1 = nI 0 by decide)
              | (apply key
                 unfold aFl
                 (repeat' split) <;> first | rfl | (exfalso; omega))
          · simp only [zcond] at h79
            refine ev_const (v := -1) dM_read_82 (by decide) ?_
            refine ev_goto (tgt := 107) dM_read_83 (by decide) ?_
            try rw [hk3.1.1]
            refine ev_puti dM_read_107 fM_69 fwM_fault rfl (vp_nar_int _) rfl ?_
            refine ev_vret dM_read_110 rfl ?_
            have hs3 : zSame sRd M (zI M2 25 29 (aFl e ts X)) := (hs2.weak (fun o i h => Or.inl h)).I (Or.inr ⟨rfl, rfl⟩)
            have hB3 : AB (zI M2 25 29 (aFl e ts X)) X.2.2 := by
              obtain ⟨g1, g2, g3, g4, g5, g6, g7, g8, g9, g10⟩ := hB2
              exact ⟨(zI_k (by omega)).trans g1, fun i hi => (zI_o (by omega)).trans (g2 i hi), (zI_k (by omega)).trans g3, (zI_k (by omega)).trans g4, (zI_k (by omega)).trans g5, (zI_fo (by omega)).trans g6, (zI_fo (by omega)).trans g7, (zI_fo (by omega)).trans g8, (zI_fo (by omega)).trans g9, (zI_fo (by omega)).trans g10⟩
            have key : ∀ v, v = aFl e ts X → ((none : Option Int32) = none ∧ zSame sRd M (zI M2 25 29 v) ∧ AB (zI M2 25 29 v) X.2.2 ∧ (zI M2 25 29 v).1 25 29 = aFl e ts X) := by
              intro v hv; subst hv; exact ⟨rfl, hs3, hB3, zI_s _ _ _ _⟩
            first
            | exact (h79 rfl).elim
            | exact (h79 trivial).elim
            | exact absurd h79 (show ¬ nI 1 = nI 0 by decide)
            | (apply key
               unfold aFl
               (repeat' split) <;> first | rfl | (exfalso; omega))
        · simp (disch := omega) only [zcond, nI_eq, Classical.not_not] at h68
          refine ev_const (v := nI 1) dM_read_71 (by decide) ?_
          refine ev_goto (tgt := 76) dM_read_72 (by decide) ?_
          refine ev_is dM_read_76 rfl (Nat.le_of_ble_eq_true rfl) ?_
          refine ev_al dM_read_77 rfl (by first | assumption | rfl) ?_
          refine ev_il dM_read_78 rfl (by first | assumption | rfl) ?_
          refine ev_if0 (tgt := 86) dM_read_79 (by decide) (fun h79 => ?_) (fun h79 => ?_)
          · simp only [zcond] at h79
            refine ev_il dM_read_86 rfl (by first | assumption | rfl) ?_
            refine ev_al dM_read_87 rfl (by first | assumption | rfl) ?_
            refine ev_geti dM_read_88 fM_106 rfl ?_
            rw [hk3.2.1.1]
            refine ev_icmp (tgt := 103) dM_read_91 (by decide) (fun h91 => ?_) (fun h91 => ?_)
            · try simp (disch := omega) only [zcond, nI_ltI, nI_leI, nI_eq, zb0, Classical.not_not, Bool.not_eq_false, Bool.not_eq_true, Nat.not_lt, Nat.not_le] at h91
              refine ev_al dM_read_103 rfl (by first | assumption | rfl) ?_
              refine ev_geti dM_read_104 fM_103 rfl ?_
              try rw [hk3.1.1]
              refine ev_puti dM_read_107 fM_69 fwM_fault rfl (vp_nar_int _) rfl ?_
              refine ev_vret dM_read_110 rfl ?_
              have hs3 : zSame sRd M (zI M2 25 29 (aFl e ts X)) := (hs2.weak (fun o i h => Or.inl h)).I (Or.inr ⟨rfl, rfl⟩)
              have hB3 : AB (zI M2 25 29 (aFl e ts X)) X.2.2 := by
                obtain ⟨g1, g2, g3, g4, g5, g6, g7, g8, g9, g10⟩ := hB2
                exact ⟨(zI_k (by omega)).trans g1, fun i hi => (zI_o (by omega)).trans (g2 i hi), (zI_k (by omega)).trans g3, (zI_k (by omega)).trans g4, (zI_k (by omega)).trans g5, (zI_fo (by omega)).trans g6, (zI_fo (by omega)).trans g7, (zI_fo (by omega)).trans g8, (zI_fo (by omega)).trans g9, (zI_fo (by omega)).trans g10⟩
              have key : ∀ v, v = aFl e ts X → ((none : Option Int32) = none ∧ zSame sRd M (zI M2 25 29 v) ∧ AB (zI M2 25 29 v) X.2.2 ∧ (zI M2 25 29 v).1 25 29 = aFl e ts X) := by
                intro v hv; subst hv; exact ⟨rfl, hs3, hB3, zI_s _ _ _ _⟩
              first
              | exact (h79 rfl).elim
              | exact (h79 trivial).elim
              | exact absurd h79 (show ¬ nI 1 = nI 0 by decide)
              | (apply key
                 unfold aFl
                 (repeat' split) <;> first | rfl | (exfalso; omega))
            · try simp (disch := omega) only [zcond, nI_ltI, nI_leI, nI_eq, zb0, Classical.not_not, Bool.not_eq_false, Bool.not_eq_true, Nat.not_lt, Nat.not_le] at h91
              refine ev_al dM_read_94 rfl (by first | assumption | rfl) ?_
              refine ev_getrP dM_read_95 fM_16 rfl (zq (q := 28) hP rfl) ?_
              refine ev_il dM_read_98 rfl (by first | assumption | rfl) ?_
              refine ev_aldN dM_read_99 rfl rfl (by omega) ?_
              rw [(hk3.2.1.2 X.1 _ (tk_at h91)).1]
              refine ev_goto (tgt := 107) dM_read_100 (by decide) ?_
              try rw [hk3.1.1]
              refine ev_puti dM_read_107 fM_69 fwM_fault rfl (vp_nar_int _) rfl ?_
              refine ev_vret dM_read_110 rfl ?_
              have hs3 : zSame sRd M (zI M2 25 29 (aFl e ts X)) := (hs2.weak (fun o i h => Or.inl h)).I (Or.inr ⟨rfl, rfl⟩)
              have hB3 : AB (zI M2 25 29 (aFl e ts X)) X.2.2 := by
                obtain ⟨g1, g2, g3, g4, g5, g6, g7, g8, g9, g10⟩ := hB2
                exact ⟨(zI_k (by omega)).trans g1, fun i hi => (zI_o (by omega)).trans (g2 i hi), (zI_k (by omega)).trans g3, (zI_k (by omega)).trans g4, (zI_k (by omega)).trans g5, (zI_fo (by omega)).trans g6, (zI_fo (by omega)).trans g7, (zI_fo (by omega)).trans g8, (zI_fo (by omega)).trans g9, (zI_fo (by omega)).trans g10⟩
              have key : ∀ v, v = aFl e ts X → ((none : Option Int32) = none ∧ zSame sRd M (zI M2 25 29 v) ∧ AB (zI M2 25 29 v) X.2.2 ∧ (zI M2 25 29 v).1 25 29 = aFl e ts X) := by
                intro v hv; subst hv; exact ⟨rfl, hs3, hB3, zI_s _ _ _ _⟩
              first
              | exact (h79 rfl).elim
              | exact (h79 trivial).elim
              | exact absurd h79 (show ¬ nI 1 = nI 0 by decide)
              | (apply key
                 unfold aFl
                 (repeat' split) <;> first | rfl | (exfalso; omega))
          · simp only [zcond] at h79
            refine ev_const (v := -1) dM_read_82 (by decide) ?_
            refine ev_goto (tgt := 107) dM_read_83 (by decide) ?_
            try rw [hk3.1.1]
            refine ev_puti dM_read_107 fM_69 fwM_fault rfl (vp_nar_int _) rfl ?_
            refine ev_vret dM_read_110 rfl ?_
            have hs3 : zSame sRd M (zI M2 25 29 (aFl e ts X)) := (hs2.weak (fun o i h => Or.inl h)).I (Or.inr ⟨rfl, rfl⟩)
            have hB3 : AB (zI M2 25 29 (aFl e ts X)) X.2.2 := by
              obtain ⟨g1, g2, g3, g4, g5, g6, g7, g8, g9, g10⟩ := hB2
              exact ⟨(zI_k (by omega)).trans g1, fun i hi => (zI_o (by omega)).trans (g2 i hi), (zI_k (by omega)).trans g3, (zI_k (by omega)).trans g4, (zI_k (by omega)).trans g5, (zI_fo (by omega)).trans g6, (zI_fo (by omega)).trans g7, (zI_fo (by omega)).trans g8, (zI_fo (by omega)).trans g9, (zI_fo (by omega)).trans g10⟩
            have key : ∀ v, v = aFl e ts X → ((none : Option Int32) = none ∧ zSame sRd M (zI M2 25 29 v) ∧ AB (zI M2 25 29 v) X.2.2 ∧ (zI M2 25 29 v).1 25 29 = aFl e ts X) := by
              intro v hv; subst hv; exact ⟨rfl, hs3, hB3, zI_s _ _ _ _⟩
            first
            | exact (h79 rfl).elim
            | exact (h79 trivial).elim
            | exact absurd h79 (show ¬ nI 1 = nI 0 by decide)
            | (apply key
               unfold aFl
               (repeat' split) <;> first | rfl | (exfalso; omega))
end
