/- the reference: oldOf, giveNumbers (rows laid by program) -/
/-- the old item's tokens from t on are the new one's, f of them -/
def mRun (im : Nat → Int32) (a q : Nat) : Nat → Nat → Bool
  | 0, _ => true
  | f + 1, t => decide (im t = nI (a + t - q)) && mRun im a q f (t + 1)
def mOf (im : Nat → Int32) (fi0 la0 : Nat → Nat) (a z : Nat) : Nat → Nat → Int32
  | 0, _ => -1
  | f + 1, j => if (decide (la0 j - fi0 j = z - a) && mRun im a (fi0 j) (la0 j + 1 - fi0 j) (fi0 j)) = true then nI j else mOf im fi0 la0 a z f (j + 1)
section
variable {Lx : Nat} {xs : Nat → Int32} {d : Nat} {M : zM} {n b : Nat}
set_option maxRecDepth 100000 in
set_option maxHeartbeats 4000000 in
theorem r_oldIn {k a z c0 : Nat} {fi0 la0 : Nat → Nat} (hP : M.2.1 = zP0 n b) (hk : k < 160) (hfa : M.1 35 k = nI a) (hla : M.1 36 k = nI z) (haz : a ≤ z ∧ z < 160) (hc0 : M.1 25 23 = nI c0) (hc02 : c0 ≤ 160) (hO : ∀ j, j < c0 → M.1 42 j = nI (fi0 j) ∧ M.1 43 j = nI (la0 j) ∧ fi0 j ≤ la0 j ∧ la0 j < 160) {j : Nat} (hj1 : M.1 42 j = nI (fi0 j)) (hj2 : M.1 43 j = nI (la0 j)) (hj3 : fi0 j ≤ la0 j ∧ la0 j < 160) (hj : j < 160) {Q : zQ} : ∀ (f t : Nat) (s : Bool) (L : Nat → Value), t + f = la0 j + 1 → fi0 j ≤ t → L 0 = .ref 25 → L 1 = .int (nI k) → L 2 = .int (nI j) → L 3 = .int (nI s.toNat) → L 4 = .int (nI t) → (∀ L' : Nat → Value, L' 0 = .ref 25 → L' 1 = .int (nI k) → L' 2 = .int (nI j) → L' 3 = .int (nI (s && mRun (M.1 34) a (fi0 j) f t).toNat) → Ev Lx xs d mM_oldOf 106 L' [] M Q) → Ev Lx xs d mM_oldOf 53 L [] M Q := by
  intro f
  induction f with
  | zero =>
    intro t s L hf ht hL0 hL1 hL2 hL3 hL4 hK
    refine ev_il dM_oldOf_53 rfl (by first | assumption | rfl) ?_
    refine ev_al dM_oldOf_55 rfl (by first | assumption | rfl) ?_
    refine ev_getrP dM_oldOf_56 fM_63 rfl (zq (q := 43) hP rfl) ?_
    refine ev_il dM_oldOf_59 rfl (by first | assumption | rfl) ?_
    refine ev_aldN dM_oldOf_60 rfl rfl (by omega) ?_
    rw [hj2]
    refine ev_icmp (tgt := 106) dM_oldOf_61 (by decide) (fun h61 => ?_) (fun h61 => ?_)
    · try simp (disch := omega) only [zcond, nI_ltI, nI_leI, nI_eq, zb0, Classical.not_not, Bool.not_eq_false, Bool.not_eq_true, Nat.not_lt, Nat.not_le] at h61
      rw [mRun, Bool.and_true] at hK
      exact hK L hL0 hL1 hL2 hL3
    · first | omega | (simp (disch := omega) only [zcond, nI_ltI, nI_leI, nI_eq] at h61; omega)
  | succ f ih =>
    intro t s L hf ht hL0 hL1 hL2 hL3 hL4 hK
    cases s with
    | true =>
      refine ev_il dM_oldOf_53 rfl (by first | assumption | rfl) ?_
      refine ev_al dM_oldOf_55 rfl (by first | assumption | rfl) ?_
      refine ev_getrP dM_oldOf_56 fM_63 rfl (zq (q := 43) hP rfl) ?_
      refine ev_il dM_oldOf_59 rfl (by first | assumption | rfl) ?_
      refine ev_aldN dM_oldOf_60 rfl rfl (by omega) ?_
      rw [hj2]
      refine ev_icmp (tgt := 106) dM_oldOf_61 (by decide) (fun h61 => ?_) (fun h61 => ?_)
      · first | omega | (simp (disch := omega) only [zcond, nI_ltI, nI_leI, nI_eq] at h61; omega)
      · try simp (disch := omega) only [zcond, nI_ltI, nI_leI, nI_eq, zb0, Classical.not_not, Bool.not_eq_false, Bool.not_eq_true, Nat.not_lt, Nat.not_le] at h61
        refine ev_il dM_oldOf_64 rfl (by first | assumption | rfl) ?_
        refine ev_if0 (tgt := 106) dM_oldOf_65 (by decide) (fun h65 => ?_) (fun h65 => ?_)
        · first | exact absurd h65 (show ¬ nI true.toNat = nI 0 by decide) | exact absurd (show nI false.toNat = nI 0 by decide) h65
        · refine ev_al dM_oldOf_68 rfl (by first | assumption | rfl) ?_
          refine ev_getrP dM_oldOf_69 fM_35 rfl (zq (q := 34) hP rfl) ?_
          refine ev_il dM_oldOf_72 rfl (by first | assumption | rfl) ?_
          refine ev_aldN dM_oldOf_74 rfl rfl (by omega) ?_
          refine ev_al dM_oldOf_75 rfl (by first | assumption | rfl) ?_
          refine ev_getrP dM_oldOf_76 fM_38 rfl (zq (q := 35) hP rfl) ?_
          refine ev_il dM_oldOf_79 rfl (by first | assumption | rfl) ?_
          refine ev_aldN dM_oldOf_80 rfl rfl (by omega) ?_
          rw [hfa]
          refine ev_il dM_oldOf_81 rfl (by first | assumption | rfl) ?_
          first | with_reducible refine ev_addN dM_oldOf_83 ?_ | refine ev_add dM_oldOf_83 ?_
          refine ev_al dM_oldOf_84 rfl (by first | assumption | rfl) ?_
          refine ev_getrP dM_oldOf_85 fM_60 rfl (zq (q := 42) hP rfl) ?_
          refine ev_il dM_oldOf_88 rfl (by first | assumption | rfl) ?_
          refine ev_aldN dM_oldOf_89 rfl rfl (by omega) ?_
          rw [hj1]
          first | with_reducible refine ev_subN dM_oldOf_90 (by omega) ?_ | refine ev_sub dM_oldOf_90 ?_
          refine ev_icmp (tgt := 98) dM_oldOf_91 (by decide) (fun h91 => ?_) (fun h91 => ?_)
          · simp only [zcond, Classical.not_not] at h91
            refine ev_const (v := nI 0) dM_oldOf_98 (by decide) ?_
            refine ev_is dM_oldOf_99 rfl (Nat.le_of_ble_eq_true rfl) ?_
            refine ev_inc1 dM_oldOf_100 (by first | assumption | rfl) ?_
            refine ev_goto (tgt := 53) dM_oldOf_103 (by decide) ?_
            first
            | (refine ih (t + 1) true _ (by omega) (by omega) (by first | assumption | rfl) (by first | assumption | rfl) (by first | assumption | rfl) rfl rfl ?_
               rw [mRun, decide_eq_true h91] at hK
               exact hK)
            | (refine ih (t + 1) false _ (by omega) (by omega) (by first | assumption | rfl) (by first | assumption | rfl) (by first | assumption | rfl) rfl rfl ?_
               rw [mRun, decide_eq_false h91] at hK
               simpa using hK)
          · simp only [zcond, Classical.not_not] at h91
            refine ev_const (v := nI 1) dM_oldOf_94 (by decide) ?_
            refine ev_goto (tgt := 99) dM_oldOf_95 (by decide) ?_
            refine ev_is dM_oldOf_99 rfl (Nat.le_of_ble_eq_true rfl) ?_
            refine ev_inc1 dM_oldOf_100 (by first | assumption | rfl) ?_
            refine ev_goto (tgt := 53) dM_oldOf_103 (by decide) ?_
            first
            | (refine ih (t + 1) true _ (by omega) (by omega) (by first | assumption | rfl) (by first | assumption | rfl) (by first | assumption | rfl) rfl rfl ?_
               rw [mRun, decide_eq_true h91] at hK
               exact hK)
            | (refine ih (t + 1) false _ (by omega) (by omega) (by first | assumption | rfl) (by first | assumption | rfl) (by first | assumption | rfl) rfl rfl ?_
               rw [mRun, decide_eq_false h91] at hK
               simpa using hK)
    | false =>
      refine ev_il dM_oldOf_53 rfl (by first | assumption | rfl) ?_
      refine ev_al dM_oldOf_55 rfl (by first | assumption | rfl) ?_
      refine ev_getrP dM_oldOf_56 fM_63 rfl (zq (q := 43) hP rfl) ?_
      refine ev_il dM_oldOf_59 rfl (by first | assumption | rfl) ?_
      refine ev_aldN dM_oldOf_60 rfl rfl (by omega) ?_
      rw [hj2]
      refine ev_icmp (tgt := 106) dM_oldOf_61 (by decide) (fun h61 => ?_) (fun h61 => ?_)
      · first | omega | (simp (disch := omega) only [zcond, nI_ltI, nI_leI, nI_eq] at h61; omega)
      · try simp (disch := omega) only [zcond, nI_ltI, nI_leI, nI_eq, zb0, Classical.not_not, Bool.not_eq_false, Bool.not_eq_true, Nat.not_lt, Nat.not_le] at h61
        refine ev_il dM_oldOf_64 rfl (by first | assumption | rfl) ?_
        refine ev_if0 (tgt := 106) dM_oldOf_65 (by decide) (fun h65 => ?_) (fun h65 => ?_)
        · rw [Bool.false_and] at hK
          exact hK L hL0 hL1 hL2 hL3
        · first | exact absurd h65 (show ¬ nI true.toNat = nI 0 by decide) | exact absurd (show nI false.toNat = nI 0 by decide) h65
set_option maxRecDepth 100000 in
set_option maxHeartbeats 4000000 in
theorem r_oldL {k a z c0 : Nat} {fi0 la0 : Nat → Nat} (hP : M.2.1 = zP0 n b) (hk : k < 160) (hfa : M.1 35 k = nI a) (hla : M.1 36 k = nI z) (haz : a ≤ z ∧ z < 160) (hc0 : M.1 25 23 = nI c0) (hc02 : c0 ≤ 160) (hO : ∀ j, j < c0 → M.1 42 j = nI (fi0 j) ∧ M.1 43 j = nI (la0 j) ∧ fi0 j ≤ la0 j ∧ la0 j < 160) {R : Option Int32 → zM → Prop} : ∀ (f j : Nat) (L : Nat → Value), j + f = c0 → L 0 = .ref 25 → L 1 = .int (nI k) → L 2 = .int (nI j) → R (some (mOf (M.1 34) fi0 la0 a z f j)) M → Ev Lx xs d mM_oldOf 2 L [] M (zpost mM_oldOf R) := by
  intro f
  induction f with
  | zero =>
    intro j L hf hL0 hL1 hL2 hR
    refine ev_il dM_oldOf_2 rfl (by first | assumption | rfl) ?_
    refine ev_al dM_oldOf_3 rfl (by first | assumption | rfl) ?_
    refine ev_geti dM_oldOf_4 fM_232 rfl ?_
    rw [hc0]
    refine ev_icmp (tgt := 118) dM_oldOf_7 (by decide) (fun h7 => ?_) (fun h7 => ?_)
    · try simp (disch := omega) only [zcond, nI_ltI, nI_leI, nI_eq, zb0, Classical.not_not, Bool.not_eq_false, Bool.not_eq_true, Nat.not_lt, Nat.not_le] at h7
      refine ev_const (v := -1) dM_oldOf_118 (by decide) ?_
      refine ev_ret dM_oldOf_119 rfl rfl ?_
      exact hR
    · first | omega | (simp (disch := omega) only [zcond, nI_ltI, nI_leI, nI_eq] at h7; omega)
  | succ f ih =>
    intro j L hf hL0 hL1 hL2 hR
    refine ev_il dM_oldOf_2 rfl (by first | assumption | rfl) ?_
    refine ev_al dM_oldOf_3 rfl (by first | assumption | rfl) ?_
    refine ev_geti dM_oldOf_4 fM_232 rfl ?_
    rw [hc0]
    refine ev_icmp (tgt := 118) dM_oldOf_7 (by decide) (fun h7 => ?_) (fun h7 => ?_)
    · first | omega | (simp (disch := omega) only [zcond, nI_ltI, nI_leI, nI_eq] at h7; omega)
    · try simp (disch := omega) only [zcond, nI_ltI, nI_leI, nI_eq, zb0, Classical.not_not, Bool.not_eq_false, Bool.not_eq_true, Nat.not_lt, Nat.not_le] at h7
      refine ev_al dM_oldOf_10 rfl (by first | assumption | rfl) ?_
      refine ev_getrP dM_oldOf_11 fM_63 rfl (zq (q := 43) hP rfl) ?_
      refine ev_il dM_oldOf_14 rfl (by first | assumption | rfl) ?_
      refine ev_aldN dM_oldOf_15 rfl rfl (by omega) ?_
      obtain ⟨hj1, hj2, hj3, hj4⟩ := hO j (by omega)
      rw [hj2]
      refine ev_al dM_oldOf_16 rfl (by first | assumption | rfl) ?_
      refine ev_getrP dM_oldOf_17 fM_60 rfl (zq (q := 42) hP rfl) ?_
      refine ev_il dM_oldOf_20 rfl (by first | assumption | rfl) ?_
      refine ev_aldN dM_oldOf_21 rfl rfl (by omega) ?_
      rw [hj1]
      first | with_reducible refine ev_subN dM_oldOf_22 (by omega) ?_ | refine ev_sub dM_oldOf_22 ?_
      refine ev_al dM_oldOf_23 rfl (by first | assumption | rfl) ?_
      refine ev_getrP dM_oldOf_24 fM_41 rfl (zq (q := 36) hP rfl) ?_
      refine ev_il dM_oldOf_27 rfl (by first | assumption | rfl) ?_
      refine ev_aldN dM_oldOf_28 rfl rfl (by omega) ?_
      rw [hla]
      refine ev_al dM_oldOf_29 rfl (by first | assumption | rfl) ?_
      refine ev_getrP dM_oldOf_30 fM_38 rfl (zq (q := 35) hP rfl) ?_
      refine ev_il dM_oldOf_33 rfl (by first | assumption | rfl) ?_
      refine ev_aldN dM_oldOf_34 rfl rfl (by omega) ?_
      rw [hfa]
      first | with_reducible refine ev_subN dM_oldOf_35 (by omega) ?_ | refine ev_sub dM_oldOf_35 ?_
      refine ev_icmp (tgt := 43) dM_oldOf_36 (by decide) (fun h36 => ?_) (fun h36 => ?_)
      · try simp (disch := omega) only [zcond, nI_ltI, nI_leI, nI_eq, zb0, Classical.not_not, Bool.not_eq_false, Bool.not_eq_true, Nat.not_lt, Nat.not_le] at h36
        refine ev_const (v := nI 0) dM_oldOf_43 (by decide) ?_
        refine ev_is dM_oldOf_44 rfl (Nat.le_of_ble_eq_true rfl) ?_
        refine ev_al dM_oldOf_45 rfl (by first | assumption | rfl) ?_
        refine ev_getrP dM_oldOf_46 fM_60 rfl (zq (q := 42) hP rfl) ?_
        refine ev_il dM_oldOf_49 rfl (by first | assumption | rfl) ?_
        refine ev_aldN dM_oldOf_50 rfl rfl (by omega) ?_
        rw [hj1]
        refine ev_is dM_oldOf_51 rfl (Nat.le_of_ble_eq_true rfl) ?_
        obtain ⟨s0, hs00⟩ : ∃ s0 : Bool, s0 = decide (la0 j - fi0 j = z - a) := ⟨_, rfl⟩
        refine r_oldIn hP hk hfa hla haz hc0 hc02 hO hj1 hj2 ⟨hj3, hj4⟩ (by omega) (la0 j + 1 - fi0 j) (fi0 j) s0 _ (by omega) (Nat.le_refl _) (by first | assumption | rfl) (by first | assumption | rfl) (by first | assumption | rfl) ?_ rfl ?_
        · rw [hs00]
          first | (rw [decide_eq_true h36]; rfl) | (rw [decide_eq_false h36]; rfl)
        intro L' hL0' hL1' hL2' hL3'
        obtain ⟨s1, hs0⟩ : ∃ s1 : Bool, s1 = (decide (la0 j - fi0 j = z - a) && mRun (M.1 34) a (fi0 j) (la0 j + 1 - fi0 j) (fi0 j)) := ⟨_, rfl⟩
        rw [hs00, ← hs0] at hL3'
        refine ev_il dM_oldOf_106 rfl (by first | assumption | rfl) ?_
        refine ev_if0 (tgt := 112) dM_oldOf_107 (by decide) (fun h107 => ?_) (fun h107 => ?_)
        · simp only [zcond, zb0, Classical.not_not, Bool.not_eq_false, Bool.not_eq_true] at h107
          refine ev_inc1 dM_oldOf_112 (by first | assumption | rfl) ?_
          refine ev_goto (tgt := 2) dM_oldOf_115 (by decide) ?_
          refine ih (j + 1) _ (by omega) (by first | assumption | rfl) (by first | assumption | rfl) rfl ?_
          rw [mOf, if_neg (by rw [← hs0, h107]; decide)] at hR
          exact hR
        · simp only [zcond, zb0, Classical.not_not, Bool.not_eq_false, Bool.not_eq_true] at h107
          refine ev_il dM_oldOf_110 rfl (by first | assumption | rfl) ?_
          refine ev_ret dM_oldOf_111 rfl rfl ?_
          rw [mOf, if_pos (by rw [← hs0]; exact h107)] at hR
          exact hR
      · try simp (disch := omega) only [zcond, nI_ltI, nI_leI, nI_eq, zb0, Classical.not_not, Bool.not_eq_false, Bool.not_eq_true, Nat.not_lt, Nat.not_le] at h36
        refine ev_const (v := nI 1) dM_oldOf_39 (by decide) ?_
        refine ev_goto (tgt := 44) dM_oldOf_40 (by decide) ?_
        refine ev_is dM_oldOf_44 rfl (Nat.le_of_ble_eq_true rfl) ?_
        refine ev_al dM_oldOf_45 rfl (by first | assumption | rfl) ?_
        refine ev_getrP dM_oldOf_46 fM_60 rfl (zq (q := 42) hP rfl) ?_
        refine ev_il dM_oldOf_49 rfl (by first | assumption | rfl) ?_
        refine ev_aldN dM_oldOf_50 rfl rfl (by omega) ?_
        rw [hj1]
        refine ev_is dM_oldOf_51 rfl (Nat.le_of_ble_eq_true rfl) ?_
        obtain ⟨s0, hs00⟩ : ∃ s0 : Bool, s0 = decide (la0 j - fi0 j = z - a) := ⟨_, rfl⟩
        refine r_oldIn hP hk hfa hla haz hc0 hc02 hO hj1 hj2 ⟨hj3, hj4⟩ (by omega) (la0 j + 1 - fi0 j) (fi0 j) s0 _ (by omega) (Nat.le_refl _) (by first | assumption | rfl) (by first | assumption | rfl) (by first | assumption | rfl) ?_ rfl ?_
        · rw [hs00]
          first | (rw [decide_eq_true h36]; rfl) | (rw [decide_eq_false h36]; rfl)
        intro L' hL0' hL1' hL2' hL3'
        obtain ⟨s1, hs0⟩ : ∃ s1 : Bool, s1 = (decide (la0 j - fi0 j = z - a) && mRun (M.1 34) a (fi0 j) (la0 j + 1 - fi0 j) (fi0 j)) := ⟨_, rfl⟩
        rw [hs00, ← hs0] at hL3'
        refine ev_il dM_oldOf_106 rfl (by first | assumption | rfl) ?_
        refine ev_if0 (tgt := 112) dM_oldOf_107 (by decide) (fun h107 => ?_) (fun h107 => ?_)
        · simp only [zcond, zb0, Classical.not_not, Bool.not_eq_false, Bool.not_eq_true] at h107
          refine ev_inc1 dM_oldOf_112 (by first | assumption | rfl) ?_
          refine ev_goto (tgt := 2) dM_oldOf_115 (by decide) ?_
          refine ih (j + 1) _ (by omega) (by first | assumption | rfl) (by first | assumption | rfl) rfl ?_
          rw [mOf, if_neg (by rw [← hs0, h107]; decide)] at hR
          exact hR
        · simp only [zcond, zb0, Classical.not_not, Bool.not_eq_false, Bool.not_eq_true] at h107
          refine ev_il dM_oldOf_110 rfl (by first | assumption | rfl) ?_
          refine ev_ret dM_oldOf_111 rfl rfl ?_
          rw [mOf, if_pos (by rw [← hs0]; exact h107)] at hR
          exact hR
set_option maxRecDepth 100000 in
set_option maxHeartbeats 4000000 in
theorem r_oldOf {k a z c0 : Nat} {fi0 la0 : Nat → Nat} (hP : M.2.1 = zP0 n b) (hk : k < 160) (hfa : M.1 35 k = nI a) (hla : M.1 36 k = nI z) (haz : a ≤ z ∧ z < 160) (hc0 : M.1 25 23 = nI c0) (hc02 : c0 ≤ 160) (hO : ∀ j, j < c0 → M.1 42 j = nI (fi0 j) ∧ M.1 43 j = nI (la0 j) ∧ fi0 j ≤ la0 j ∧ la0 j < 160) : Pu Lx xs d mM_oldOf [.ref 25, .int (nI k)] M (mOf (M.1 34) fi0 la0 a z c0 0) := by
  unfold Pu Ct
  refine ev_const (v := nI 0) dM_oldOf_0 (by decide) ?_
  refine ev_is dM_oldOf_1 rfl (Nat.le_of_ble_eq_true rfl) ?_
  exact r_oldL hP hk hfa hla haz hc0 hc02 hO c0 0 _ (by omega) rfl rfl rfl ⟨rfl, rfl⟩
def mG (M : zM) (x : Nat × Nat × (Nat → Int32)) : zM := (fun a => if a = 40 then x.2.2 else if a = 25 then upd (upd (M.1 25) 28 (nI x.1)) 27 (nI x.2.1) else M.1 a, M.2)
theorem mG_o {x : Nat × Nat × (Nat → Int32)} {a i : Nat} (h : a ≠ 40) (h0 : a ≠ 25) : (mG M x).1 a i = M.1 a i := by simp [mG, h, h0]
theorem mG_fo {x : Nat × Nat × (Nat → Int32)} {a : Nat} (h : a ≠ 40) (h0 : a ≠ 25) : (mG M x).1 a = M.1 a := by simp [mG, h, h0]
theorem mG_u {x : Nat × Nat × (Nat → Int32)} {i : Nat} : (mG M x).1 40 i = x.2.2 i := by simp [mG]
theorem mG_5 {x : Nat × Nat × (Nat → Int32)} : (mG M x).1 25 28 = nI x.1 := by simp [mG, upd]
theorem mG_6 {x : Nat × Nat × (Nat → Int32)} : (mG M x).1 25 27 = nI x.2.1 := by simp [mG, upd]
theorem mG_0 {x : Nat × Nat × (Nat → Int32)} {i : Nat} (h5 : i ≠ 28) (h6 : i ≠ 27) : (mG M x).1 25 i = M.1 25 i := by simp [mG, upd, h5, h6]
theorem mG_su {x : Nat × Nat × (Nat → Int32)} {k : Nat} {v : Int32} : zI (mG M x) 40 k v = mG M (x.1, x.2.1, upd x.2.2 k v) := by
  refine zM_ext (fun a i => ?_) rfl
  rw [zI_at]
  by_cases h : a = 40
  · subst h; rw [mG_u, mG_u]; simp [upd]
  · rw [if_neg (fun hh => h hh.1)]
    simp only [mG, if_neg h]
theorem mG_s5 {x : Nat × Nat × (Nat → Int32)} {v : Nat} : zI (mG M x) 25 28 (nI v) = mG M (v, x.2.1, x.2.2) := by
  refine zM_ext (fun a i => ?_) rfl
  rw [zI_at]
  by_cases h : a = 25
  · subst h
    have h0 : ¬ (25 = 40) := by decide
    simp only [mG, if_neg h0, if_true, true_and, upd]
    (repeat' split) <;> first | rfl | (exfalso; omega)
  · rw [if_neg (fun hh => h hh.1)]
    simp only [mG, if_neg h]
theorem mG_s6 {x : Nat × Nat × (Nat → Int32)} {v : Nat} : zI (mG M x) 25 27 (nI v) = mG M (x.1, v, x.2.2) := by
  refine zM_ext (fun a i => ?_) rfl
  rw [zI_at]
  by_cases h : a = 25
  · subst h
    have h0 : ¬ (25 = 40) := by decide
    simp only [mG, if_neg h0, if_true, true_and, upd]
    (repeat' split) <;> first | rfl | (exfalso; omega)
  · rw [if_neg (fun hh => h hh.1)]
    simp only [mG, if_neg h]
set_option maxRecDepth 100000 in
set_option maxHeartbeats 4000000 in
theorem r_giveL {c1 : Nat} {oi : Nat → Int32} (hP : M.2.1 = zP0 n b) (hc1 : M.1 25 14 = nI c1) (hc12 : c1 ≤ 160) (hoi : ∀ d x k, k < c1 → Pu Lx xs d mM_oldOf [.ref 25, .int (nI k)] (mG M x) (oi k)) (hoi2 : ∀ k, k < c1 → oi k = -1 ∨ ∃ j, j < 160 ∧ oi k = nI j) {R : Option Int32 → zM → Prop} : ∀ (f k : Nat) (x : Nat × Nat × (Nat → Int32)) (L : Nat → Value), k + f = c1 → L 0 = .ref 25 → L 1 = .int (nI k) → R none (mG M (nGo oi (M.1 44) f k x)) → Ev Lx xs (d + 1) mM_giveNumbers 7 L [] (mG M x) (zpost mM_giveNumbers R) := by
  intro f
  induction f with
  | zero =>
    intro k x L hf hL0 hL1 hR
    refine ev_il dM_giveNumbers_7 rfl (by first | assumption | rfl) ?_
    refine ev_al dM_giveNumbers_8 rfl (by first | assumption | rfl) ?_
    refine ev_geti dM_giveNumbers_9 fM_146 rfl ?_
    rw [mG_0 (by omega) (by omega), hc1]
    refine ev_icmp (tgt := 76) dM_giveNumbers_12 (by decide) (fun h12 => ?_) (fun h12 => ?_)
    · try simp (disch := omega) only [zcond, nI_ltI, nI_leI, nI_eq, zb0, Classical.not_not, Bool.not_eq_false, Bool.not_eq_true, Nat.not_lt, Nat.not_le] at h12
      refine ev_vret dM_giveNumbers_76 rfl ?_
      exact hR
    · first | omega | (simp (disch := omega) only [zcond, nI_ltI, nI_leI, nI_eq] at h12; omega)
  | succ f ih =>
    intro k x L hf hL0 hL1 hR
    refine ev_il dM_giveNumbers_7 rfl (by first | assumption | rfl) ?_
    refine ev_al dM_giveNumbers_8 rfl (by first | assumption | rfl) ?_
    refine ev_geti dM_giveNumbers_9 fM_146 rfl ?_
    rw [mG_0 (by omega) (by omega), hc1]
    refine ev_icmp (tgt := 76) dM_giveNumbers_12 (by decide) (fun h12 => ?_) (fun h12 => ?_)
    · first | omega | (simp (disch := omega) only [zcond, nI_ltI, nI_leI, nI_eq] at h12; omega)
    · try simp (disch := omega) only [zcond, nI_ltI, nI_leI, nI_eq, zb0, Classical.not_not, Bool.not_eq_false, Bool.not_eq_true, Nat.not_lt, Nat.not_le] at h12
      refine ev_al dM_giveNumbers_15 rfl (by first | assumption | rfl) ?_
      refine ev_il dM_giveNumbers_16 rfl (by first | assumption | rfl) ?_
      refine ev_pV dM_giveNumbers_17 (hoi _ x k (by omega)) lM_241 rec_M rfl (Nat.le_of_ble_eq_true rfl) rfl (Nat.le_of_ble_eq_true rfl) ?_
      refine ev_is dM_giveNumbers_20 rfl (Nat.le_of_ble_eq_true rfl) ?_
      have hoik := hoi2 k (by omega)
      refine ev_il dM_giveNumbers_21 rfl (by first | assumption | rfl) ?_
      refine ev_if0 (tgt := 50) dM_giveNumbers_22 (by decide) (fun h22 => ?_) (fun h22 => ?_)
      · simp only [zcond] at h22
        refine ev_al dM_giveNumbers_50 rfl (by first | assumption | rfl) ?_
        refine ev_getrP dM_giveNumbers_51 fM_54 rfl (zq (q := 40) hP rfl) ?_
        refine ev_il dM_giveNumbers_54 rfl (by first | assumption | rfl) ?_
        refine ev_al dM_giveNumbers_55 rfl (by first | assumption | rfl) ?_
        refine ev_geti dM_giveNumbers_56 fM_244 rfl ?_
        rw [mG_6]
        refine ev_iastN dM_giveNumbers_59 rfl (by omega) ?_
        refine ev_mem (M' := mG M (x.1, x.2.1, upd x.2.2 k (nI x.2.1))) mG_su ?_
        refine ev_al dM_giveNumbers_60 rfl (by first | assumption | rfl) ?_
        refine ev_stk dM_giveNumbers_61 rfl ?_
        refine ev_geti dM_giveNumbers_62 fM_244 rfl ?_
        rw [mG_6]
        refine ev_const (v := nI 1) dM_giveNumbers_65 (by decide) ?_
        first | with_reducible refine ev_addN dM_giveNumbers_66 ?_ | refine ev_add dM_giveNumbers_66 ?_
        refine ev_puti dM_giveNumbers_67 fM_244 fwM_fresh rfl (vp_nar_int _) rfl ?_
        try refine ev_mem (M' := mG M (x.1, x.2.1 + 1, upd x.2.2 k (nI x.2.1))) mG_s6 ?_
        refine ev_inc1 dM_giveNumbers_70 (by first | assumption | rfl) ?_
        refine ev_goto (tgt := 7) dM_giveNumbers_73 (by decide) ?_
        first
        | (refine ih (k + 1) (x.1 + 1, x.2.1, upd x.2.2 k (M.1 44 j)) _ (by omega) (by first | assumption | rfl) rfl ?_
           rw [nGo, if_neg (by rw [hoik]; exact nI_ne1 (by omega)), hoik, nI_clamp (by omega)] at hR
           exact hR)
        | (refine ih (k + 1) (x.1, x.2.1 + 1, upd x.2.2 k (nI x.2.1)) _ (by omega) (by first | assumption | rfl) rfl ?_
           have hm1 : oi k = -1 := hoik.elim id (fun ⟨j, hj, hoik⟩ => absurd (hoik ▸ h22) (nI_nlt (Nat.zero_le _) (by omega)))
           rw [nGo, if_pos hm1] at hR
           exact hR)
      · simp only [zcond] at h22
        refine ev_al dM_giveNumbers_25 rfl (by first | assumption | rfl) ?_
        refine ev_getrP dM_giveNumbers_26 fM_54 rfl (zq (q := 40) hP rfl) ?_
        refine ev_il dM_giveNumbers_29 rfl (by first | assumption | rfl) ?_
        refine ev_al dM_giveNumbers_30 rfl (by first | assumption | rfl) ?_
        refine ev_getrP dM_giveNumbers_31 fM_66 rfl (zq (q := 44) hP rfl) ?_
        refine ev_il dM_giveNumbers_34 rfl (by first | assumption | rfl) ?_
        rcases hoik with hoik | ⟨j, hj, hoik⟩
        · exact absurd (by rw [hoik]; decide) h22
        rw [hoik]
        refine ev_aldN dM_giveNumbers_35 rfl rfl (by omega) ?_
        rw [mG_o (by omega) (by omega)]
        refine ev_iastN dM_giveNumbers_36 rfl (by omega) ?_
        refine ev_mem (M' := mG M (x.1, x.2.1, upd x.2.2 k (M.1 44 j))) mG_su ?_
        refine ev_al dM_giveNumbers_37 rfl (by first | assumption | rfl) ?_
        refine ev_stk dM_giveNumbers_38 rfl ?_
        refine ev_geti dM_giveNumbers_39 fM_238 rfl ?_
        rw [mG_5]
        refine ev_const (v := nI 1) dM_giveNumbers_42 (by decide) ?_
        first | with_reducible refine ev_addN dM_giveNumbers_43 ?_ | refine ev_add dM_giveNumbers_43 ?_
        refine ev_puti dM_giveNumbers_44 fM_238 fwM_stayed rfl (vp_nar_int _) rfl ?_
        refine ev_mem (M' := mG M (x.1 + 1, x.2.1, upd x.2.2 k (M.1 44 j))) mG_s5 ?_
        refine ev_goto (tgt := 70) dM_giveNumbers_47 (by decide) ?_
        try refine ev_mem (M' := mG M (x.1, x.2.1 + 1, upd x.2.2 k (nI x.2.1))) mG_s6 ?_
        refine ev_inc1 dM_giveNumbers_70 (by first | assumption | rfl) ?_
        refine ev_goto (tgt := 7) dM_giveNumbers_73 (by decide) ?_
        first
        | (refine ih (k + 1) (x.1 + 1, x.2.1, upd x.2.2 k (M.1 44 j)) _ (by omega) (by first | assumption | rfl) rfl ?_
           rw [nGo, if_neg (by rw [hoik]; exact nI_ne1 (by omega)), hoik, nI_clamp (by omega)] at hR
           exact hR)
        | (refine ih (k + 1) (x.1, x.2.1 + 1, upd x.2.2 k (nI x.2.1)) _ (by omega) (by first | assumption | rfl) rfl ?_
           have hm1 : oi k = -1 := hoik.elim id (fun ⟨j, hj, hoik⟩ => absurd (hoik ▸ h22) (nI_nlt (Nat.zero_le _) (by omega)))
           rw [nGo, if_pos hm1] at hR
           exact hR)
set_option maxRecDepth 100000 in
set_option maxHeartbeats 4000000 in
theorem r_giveNumbers {c1 gi : Nat} {oi : Nat → Int32} (hP : M.2.1 = zP0 n b) (hc1 : M.1 25 14 = nI c1) (hc12 : c1 ≤ 160) (hgi : M.1 25 27 = nI gi) (hoi : ∀ d x k, k < c1 → Pu Lx xs d mM_oldOf [.ref 25, .int (nI k)] (mG M x) (oi k)) (hoi2 : ∀ k, k < c1 → oi k = -1 ∨ ∃ j, j < 160 ∧ oi k = nI j) : Ct Lx xs (d + 1) mM_giveNumbers [.ref 25] M (fun q M' => q = none ∧ M' = mG M (nGo oi (M.1 44) c1 0 (0, gi, M.1 40))) := by
  unfold Ct
  refine ev_al dM_giveNumbers_0 rfl (by first | assumption | rfl) ?_
  refine ev_const (v := nI 0) dM_giveNumbers_1 (by decide) ?_
  refine ev_puti dM_giveNumbers_2 fM_238 fwM_stayed rfl (vp_nar_int _) rfl ?_
  refine ev_const (v := nI 0) dM_giveNumbers_5 (by decide) ?_
  refine ev_is dM_giveNumbers_6 rfl (Nat.le_of_ble_eq_true rfl) ?_
  refine ev_mem (M' := mG M (0, gi, M.1 40)) ?_ (r_giveL hP hc1 hc12 hoi hoi2 c1 0 _ _ (by omega) rfl rfl ⟨rfl, rfl⟩)
  refine zM_ext (fun a i => ?_) rfl
  rw [zI_at]
  by_cases h : a = 40
  · subst h; rw [mG_u, if_neg (by omega)]
  · by_cases h0 : a = 25
    · subst h0
      by_cases h5 : i = 28
      · subst h5; rw [mG_5, if_pos ⟨rfl, rfl⟩]
      · by_cases h6 : i = 27
        · subst h6; rw [mG_6, if_neg (by omega)]; exact hgi
        · rw [mG_0 h5 h6, if_neg (by omega)]
    · rw [mG_o h h0, if_neg (by omega)]
end
