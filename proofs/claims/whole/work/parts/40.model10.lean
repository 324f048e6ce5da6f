/- the reference: numberValue, sameLetters, named, countInside (rows laid by program) -/
def mCnt (F La Lv : Nat → Int32) (k : Nat) : Nat → Nat → Nat → Nat
  | 0, _, c => c
  | f + 1, j, c => mCnt F La Lv k f (j + 1) (if F j < La k ∧ Lv j = Lv k + nI 1 then c + 1 else c)
/-- the last item before that gives the name a value -/
def mNam (df : Nat → Bool) (same : Nat → Nat → Bool) (fi : Nat → Nat) (va : Nat → Int32) (nm : Nat) : Nat → Nat → Int32 → Int32
  | 0, _, v => v
  | f + 1, j, v => mNam df same fi va nm f (j + 1) (if df j = true ∧ same (fi j) nm = true then va j else v)
def mSm (t : Nat → Nat) (ts : List (Nat × Nat × Nat)) (a z : Nat) : Bool := decide ((tk ts a).2.1 = (tk ts z).2.1) && lSame t (tk ts z).2.1 (tk ts a).1 (tk ts z).1
section
variable {Lx : Nat} {xs : Nat → Int32} {d : Nat} {M : zM} {n b : Nat}
set_option maxRecDepth 100000 in
set_option maxHeartbeats 4000000 in
theorem r_numL {e k : Nat} {t : Nat → Nat} {ts : List (Nat × Nat × Nat)} (hP : M.2.1 = zP0 n b) (hk : MTk M e t ts) (hk2 : k < ts.length) {R : Option Int32 → zM → Prop} (hR : R (some (tTv t ts k)) M) : ∀ (f i : Nat) (L : Nat → Value), i + f = (tk ts k).2.1 → L 0 = .ref 25 → L 1 = .int (nI k) → L 2 = .int (lDv t (tk ts k).1 i) → L 3 = .int (nI i) → Ev Lx xs d mM_numberValue 4 L [] M (zpost mM_numberValue R) := by
  have he := hk.1.2.1
  have hlen := hk.2.2.1.2.1
  obtain ⟨hq1, hq2, hq3⟩ := hk.2.1.2 k _ (tk_at hk2)
  have hin := tV_in hk.2.2.1 hk2
  unfold tTv at hR
  intro f
  induction f with
  | zero =>
    intro i L hf hL0 hL1 hL2 hL3
    refine ev_il dM_numberValue_4 rfl (by first | assumption | rfl) ?_
    refine ev_al dM_numberValue_5 rfl (by first | assumption | rfl) ?_
    refine ev_getrP dM_numberValue_6 fM_20 rfl (zq (q := 29) hP rfl) ?_
    refine ev_il dM_numberValue_9 rfl (by first | assumption | rfl) ?_
    refine ev_aldN dM_numberValue_10 rfl rfl (by omega) ?_
    rw [hq2]
    refine ev_icmp (tgt := 42) dM_numberValue_11 (by decide) (fun h11 => ?_) (fun h11 => ?_)
    · try simp (disch := omega) only [zcond, nI_ltI, nI_leI, nI_eq, zb0, Classical.not_not, Bool.not_eq_false, Bool.not_eq_true, Nat.not_lt, Nat.not_le] at h11
      refine ev_il dM_numberValue_42 rfl (by first | assumption | rfl) ?_
      refine ev_ret dM_numberValue_43 rfl rfl ?_
      obtain rfl : i = (tk ts k).2.1 := by omega
      exact hR
    · first | omega | (simp (disch := omega) only [zcond, nI_ltI, nI_leI, nI_eq] at h11; omega)
  | succ f ih =>
    intro i L hf hL0 hL1 hL2 hL3
    refine ev_il dM_numberValue_4 rfl (by first | assumption | rfl) ?_
    refine ev_al dM_numberValue_5 rfl (by first | assumption | rfl) ?_
    refine ev_getrP dM_numberValue_6 fM_20 rfl (zq (q := 29) hP rfl) ?_
    refine ev_il dM_numberValue_9 rfl (by first | assumption | rfl) ?_
    refine ev_aldN dM_numberValue_10 rfl rfl (by omega) ?_
    rw [hq2]
    refine ev_icmp (tgt := 42) dM_numberValue_11 (by decide) (fun h11 => ?_) (fun h11 => ?_)
    · first | omega | (simp (disch := omega) only [zcond, nI_ltI, nI_leI, nI_eq] at h11; omega)
    · try simp (disch := omega) only [zcond, nI_ltI, nI_leI, nI_eq, zb0, Classical.not_not, Bool.not_eq_false, Bool.not_eq_true, Nat.not_lt, Nat.not_le] at h11
      refine ev_const (v := nI 10) dM_numberValue_14 (by decide) ?_
      refine ev_il dM_numberValue_16 rfl (by first | assumption | rfl) ?_
      first | with_reducible refine ev_mulN dM_numberValue_17 ?_ | refine ev_mul dM_numberValue_17 ?_
      refine ev_al dM_numberValue_18 rfl (by first | assumption | rfl) ?_
      refine ev_getrP dM_numberValue_19 fM_7 rfl (zq (q := 26) hP rfl) ?_
      refine ev_al dM_numberValue_22 rfl (by first | assumption | rfl) ?_
      refine ev_getrP dM_numberValue_23 fM_16 rfl (zq (q := 28) hP rfl) ?_
      refine ev_il dM_numberValue_26 rfl (by first | assumption | rfl) ?_
      refine ev_aldN dM_numberValue_27 rfl rfl (by omega) ?_
      rw [hq1]
      refine ev_il dM_numberValue_28 rfl (by first | assumption | rfl) ?_
      first | with_reducible refine ev_addN dM_numberValue_29 ?_ | refine ev_add dM_numberValue_29 ?_
      refine ev_aldN dM_numberValue_30 rfl rfl (by omega) ?_
      rw [(hk.1.2.2 ((tk ts k).1 + i) (by omega)).1]
      refine ev_const (v := nI 48) dM_numberValue_31 (by decide) ?_
      refine ev_sub dM_numberValue_33 ?_
      first | with_reducible refine ev_addN dM_numberValue_34 ?_ | refine ev_add dM_numberValue_34 ?_
      refine ev_is dM_numberValue_35 rfl (Nat.le_of_ble_eq_true rfl) ?_
      refine ev_inc1 dM_numberValue_36 (by first | assumption | rfl) ?_
      refine ev_goto (tgt := 4) dM_numberValue_39 (by decide) ?_
      exact ih (i + 1) _ (by omega) (by first | assumption | rfl) (by first | assumption | rfl) rfl rfl
set_option maxRecDepth 100000 in
set_option maxHeartbeats 4000000 in
theorem r_numberValue {e k : Nat} {t : Nat → Nat} {ts : List (Nat × Nat × Nat)} (hP : M.2.1 = zP0 n b) (hk : MTk M e t ts) (hk2 : k < ts.length) : Pu Lx xs d mM_numberValue [.ref 25, .int (nI k)] M (tTv t ts k) := by
  unfold Pu Ct
  refine ev_const (v := nI 0) dM_numberValue_0 (by decide) ?_
  refine ev_is dM_numberValue_1 rfl (Nat.le_of_ble_eq_true rfl) ?_
  refine ev_const (v := nI 0) dM_numberValue_2 (by decide) ?_
  refine ev_is dM_numberValue_3 rfl (Nat.le_of_ble_eq_true rfl) ?_
  exact r_numL hP hk hk2 ⟨rfl, rfl⟩ (tk ts k).2.1 0 _ (by omega) rfl rfl rfl rfl
set_option maxRecDepth 100000 in
set_option maxHeartbeats 4000000 in
theorem r_sameL {e k a : Nat} {t : Nat → Nat} {ts : List (Nat × Nat × Nat)} (hP : M.2.1 = zP0 n b) (hk : MTk M e t ts) (hk2 : k < ts.length) (ha2 : a < ts.length) {R : Option Int32 → zM → Prop} : ∀ (f i : Nat) (s : Bool) (L : Nat → Value), i + f = (tk ts k).2.1 → (s = true → (tk ts a).2.1 = (tk ts k).2.1) → L 0 = .ref 25 → L 1 = .int (nI a) → L 2 = .int (nI k) → L 3 = .int (nI s.toNat) → L 4 = .int (nI i) → R (some (nI (s && lSame t f ((tk ts a).1 + i) ((tk ts k).1 + i)).toNat)) M → Ev Lx xs d mM_sameLetters 24 L [] M (zpost mM_sameLetters R) := by
  have he := hk.1.2.1
  have hlen := hk.2.2.1.2.1
  obtain ⟨hq1, hq2, hq3⟩ := hk.2.1.2 k _ (tk_at hk2)
  have hin := tV_in hk.2.2.1 hk2
  obtain ⟨ha1, ha3, -⟩ := hk.2.1.2 a _ (tk_at ha2)
  have hina := tV_in hk.2.2.1 ha2
  intro f
  induction f with
  | zero =>
    intro i s L hf hsl hL0 hL1 hL2 hL3 hL4 hR
    refine ev_il dM_sameLetters_24 rfl (by first | assumption | rfl) ?_
    refine ev_al dM_sameLetters_26 rfl (by first | assumption | rfl) ?_
    refine ev_getrP dM_sameLetters_27 fM_20 rfl (zq (q := 29) hP rfl) ?_
    refine ev_il dM_sameLetters_30 rfl (by first | assumption | rfl) ?_
    refine ev_aldN dM_sameLetters_31 rfl rfl (by omega) ?_
    rw [hq2]
    refine ev_icmp (tgt := 82) dM_sameLetters_32 (by decide) (fun h32 => ?_) (fun h32 => ?_)
    · try simp (disch := omega) only [zcond, nI_ltI, nI_leI, nI_eq, zb0, Classical.not_not, Bool.not_eq_false, Bool.not_eq_true, Nat.not_lt, Nat.not_le] at h32
      refine ev_il dM_sameLetters_82 rfl (by first | assumption | rfl) ?_
      refine ev_ret dM_sameLetters_83 rfl (zb1 _) ?_
      rw [lSame, Bool.and_true] at hR
      exact hR
    · first | omega | (simp (disch := omega) only [zcond, nI_ltI, nI_leI, nI_eq] at h32; omega)
  | succ f ih =>
    intro i s L hf hsl hL0 hL1 hL2 hL3 hL4 hR
    cases s with
    | true =>
      have hsl2 := hsl rfl
      refine ev_il dM_sameLetters_24 rfl (by first | assumption | rfl) ?_
      refine ev_al dM_sameLetters_26 rfl (by first | assumption | rfl) ?_
      refine ev_getrP dM_sameLetters_27 fM_20 rfl (zq (q := 29) hP rfl) ?_
      refine ev_il dM_sameLetters_30 rfl (by first | assumption | rfl) ?_
      refine ev_aldN dM_sameLetters_31 rfl rfl (by omega) ?_
      rw [hq2]
      refine ev_icmp (tgt := 82) dM_sameLetters_32 (by decide) (fun h32 => ?_) (fun h32 => ?_)
      · first | omega | (simp (disch := omega) only [zcond, nI_ltI, nI_leI, nI_eq] at h32; omega)
      · try simp (disch := omega) only [zcond, nI_ltI, nI_leI, nI_eq, zb0, Classical.not_not, Bool.not_eq_false, Bool.not_eq_true, Nat.not_lt, Nat.not_le] at h32
        refine ev_il dM_sameLetters_35 rfl (by first | assumption | rfl) ?_
        refine ev_if0 (tgt := 82) dM_sameLetters_36 (by decide) (fun h36 => ?_) (fun h36 => ?_)
        · exact absurd h36 (show ¬ nI true.toNat = nI 0 by decide)
        · refine ev_al dM_sameLetters_39 rfl (by first | assumption | rfl) ?_
          refine ev_getrP dM_sameLetters_40 fM_7 rfl (zq (q := 26) hP rfl) ?_
          refine ev_al dM_sameLetters_43 rfl (by first | assumption | rfl) ?_
          refine ev_getrP dM_sameLetters_44 fM_16 rfl (zq (q := 28) hP rfl) ?_
          refine ev_il dM_sameLetters_47 rfl (by first | assumption | rfl) ?_
          refine ev_aldN dM_sameLetters_48 rfl rfl (by omega) ?_
          rw [ha1]
          refine ev_il dM_sameLetters_49 rfl (by first | assumption | rfl) ?_
          first | with_reducible refine ev_addN dM_sameLetters_51 ?_ | refine ev_add dM_sameLetters_51 ?_
          refine ev_aldN dM_sameLetters_52 rfl rfl (by omega) ?_
          rw [(hk.1.2.2 ((tk ts a).1 + i) (by omega)).1]
          have hc1 := (hk.1.2.2 ((tk ts a).1 + i) (by omega)).2
          refine ev_al dM_sameLetters_53 rfl (by first | assumption | rfl) ?_
          refine ev_getrP dM_sameLetters_54 fM_7 rfl (zq (q := 26) hP rfl) ?_
          refine ev_al dM_sameLetters_57 rfl (by first | assumption | rfl) ?_
          refine ev_getrP dM_sameLetters_58 fM_16 rfl (zq (q := 28) hP rfl) ?_
          refine ev_il dM_sameLetters_61 rfl (by first | assumption | rfl) ?_
          refine ev_aldN dM_sameLetters_62 rfl rfl (by omega) ?_
          rw [hq1]
          refine ev_il dM_sameLetters_63 rfl (by first | assumption | rfl) ?_
          first | with_reducible refine ev_addN dM_sameLetters_65 ?_ | refine ev_add dM_sameLetters_65 ?_
          refine ev_aldN dM_sameLetters_66 rfl rfl (by omega) ?_
          rw [(hk.1.2.2 ((tk ts k).1 + i) (by omega)).1]
          have hc2 := (hk.1.2.2 ((tk ts k).1 + i) (by omega)).2
          refine ev_icmp (tgt := 74) dM_sameLetters_67 (by decide) (fun h67 => ?_) (fun h67 => ?_)
          · try simp (disch := omega) only [zcond, nI_ltI, nI_leI, nI_eq, zb0, Classical.not_not, Bool.not_eq_false, Bool.not_eq_true, Nat.not_lt, Nat.not_le] at h67
            refine ev_const (v := nI 0) dM_sameLetters_74 (by decide) ?_
            refine ev_is dM_sameLetters_75 rfl (Nat.le_of_ble_eq_true rfl) ?_
            refine ev_inc1 dM_sameLetters_76 (by first | assumption | rfl) ?_
            refine ev_goto (tgt := 24) dM_sameLetters_79 (by decide) ?_
            first
            | (refine ih (i + 1) true _ (by omega) (fun _ => hsl rfl) (by first | assumption | rfl) (by first | assumption | rfl) (by first | assumption | rfl) rfl rfl ?_
               rw [lSame, if_pos h67] at hR
               exact hR)
            | (refine ih (i + 1) false _ (by omega) (fun h => by cases h) (by first | assumption | rfl) (by first | assumption | rfl) (by first | assumption | rfl) rfl rfl ?_
               rw [lSame, if_neg h67] at hR
               simpa using hR)
          · try simp (disch := omega) only [zcond, nI_ltI, nI_leI, nI_eq, zb0, Classical.not_not, Bool.not_eq_false, Bool.not_eq_true, Nat.not_lt, Nat.not_le] at h67
            refine ev_const (v := nI 1) dM_sameLetters_70 (by decide) ?_
            refine ev_goto (tgt := 75) dM_sameLetters_71 (by decide) ?_
            refine ev_is dM_sameLetters_75 rfl (Nat.le_of_ble_eq_true rfl) ?_
            refine ev_inc1 dM_sameLetters_76 (by first | assumption | rfl) ?_
            refine ev_goto (tgt := 24) dM_sameLetters_79 (by decide) ?_
            first
            | (refine ih (i + 1) true _ (by omega) (fun _ => hsl rfl) (by first | assumption | rfl) (by first | assumption | rfl) (by first | assumption | rfl) rfl rfl ?_
               rw [lSame, if_pos h67] at hR
               exact hR)
            | (refine ih (i + 1) false _ (by omega) (fun h => by cases h) (by first | assumption | rfl) (by first | assumption | rfl) (by first | assumption | rfl) rfl rfl ?_
               rw [lSame, if_neg h67] at hR
               simpa using hR)
    | false =>
      refine ev_il dM_sameLetters_24 rfl (by first | assumption | rfl) ?_
      refine ev_al dM_sameLetters_26 rfl (by first | assumption | rfl) ?_
      refine ev_getrP dM_sameLetters_27 fM_20 rfl (zq (q := 29) hP rfl) ?_
      refine ev_il dM_sameLetters_30 rfl (by first | assumption | rfl) ?_
      refine ev_aldN dM_sameLetters_31 rfl rfl (by omega) ?_
      rw [hq2]
      refine ev_icmp (tgt := 82) dM_sameLetters_32 (by decide) (fun h32 => ?_) (fun h32 => ?_)
      · first | omega | (simp (disch := omega) only [zcond, nI_ltI, nI_leI, nI_eq] at h32; omega)
      · try simp (disch := omega) only [zcond, nI_ltI, nI_leI, nI_eq, zb0, Classical.not_not, Bool.not_eq_false, Bool.not_eq_true, Nat.not_lt, Nat.not_le] at h32
        refine ev_il dM_sameLetters_35 rfl (by first | assumption | rfl) ?_
        refine ev_if0 (tgt := 82) dM_sameLetters_36 (by decide) (fun h36 => ?_) (fun h36 => ?_)
        · refine ev_il dM_sameLetters_82 rfl (by first | assumption | rfl) ?_
          refine ev_ret dM_sameLetters_83 rfl (zb1 _) ?_
          rw [Bool.false_and] at hR
          exact hR
        · exact absurd (show nI false.toNat = nI 0 by decide) h36
set_option maxRecDepth 100000 in
set_option maxHeartbeats 4000000 in
theorem r_sameLetters {e k a : Nat} {t : Nat → Nat} {ts : List (Nat × Nat × Nat)} (hP : M.2.1 = zP0 n b) (hk : MTk M e t ts) (hk2 : k < ts.length) (ha2 : a < ts.length) : Pu Lx xs d mM_sameLetters [.ref 25, .int (nI a), .int (nI k)] M (nI (mSm t ts a k).toNat) := by
  unfold Pu Ct
  have he := hk.1.2.1
  have hlen := hk.2.2.1.2.1
  obtain ⟨hq1, hq2, hq3⟩ := hk.2.1.2 k _ (tk_at hk2)
  have hin := tV_in hk.2.2.1 hk2
  obtain ⟨ha1, ha3, -⟩ := hk.2.1.2 a _ (tk_at ha2)
  have hina := tV_in hk.2.2.1 ha2
  refine ev_al dM_sameLetters_0 rfl (by first | assumption | rfl) ?_
  refine ev_getrP dM_sameLetters_1 fM_20 rfl (zq (q := 29) hP rfl) ?_
  refine ev_il dM_sameLetters_4 rfl (by first | assumption | rfl) ?_
  refine ev_aldN dM_sameLetters_5 rfl rfl (by omega) ?_
  rw [ha3]
  refine ev_al dM_sameLetters_6 rfl (by first | assumption | rfl) ?_
  refine ev_getrP dM_sameLetters_7 fM_20 rfl (zq (q := 29) hP rfl) ?_
  refine ev_il dM_sameLetters_10 rfl (by first | assumption | rfl) ?_
  refine ev_aldN dM_sameLetters_11 rfl rfl (by omega) ?_
  rw [hq2]
  refine ev_icmp (tgt := 19) dM_sameLetters_12 (by decide) (fun h12 => ?_) (fun h12 => ?_)
  · try simp (disch := omega) only [zcond, nI_ltI, nI_leI, nI_eq, zb0, Classical.not_not, Bool.not_eq_false, Bool.not_eq_true, Nat.not_lt, Nat.not_le] at h12
    refine ev_const (v := nI 0) dM_sameLetters_19 (by decide) ?_
    refine ev_is dM_sameLetters_20 rfl (Nat.le_of_ble_eq_true rfl) ?_
    refine ev_const (v := nI 0) dM_sameLetters_21 (by decide) ?_
    refine ev_is dM_sameLetters_22 rfl (Nat.le_of_ble_eq_true rfl) ?_
    first
    | (refine r_sameL hP hk hk2 ha2 (tk ts k).2.1 0 true _ (by omega) (fun _ => h12) rfl rfl rfl rfl rfl ?_
       unfold mSm
       rw [decide_eq_true h12]
       exact ⟨rfl, rfl⟩)
    | (refine r_sameL hP hk hk2 ha2 (tk ts k).2.1 0 false _ (by omega) (fun h => by cases h) rfl rfl rfl rfl rfl ?_
       unfold mSm
       rw [decide_eq_false h12]
       exact ⟨rfl, rfl⟩)
  · try simp (disch := omega) only [zcond, nI_ltI, nI_leI, nI_eq, zb0, Classical.not_not, Bool.not_eq_false, Bool.not_eq_true, Nat.not_lt, Nat.not_le] at h12
    refine ev_const (v := nI 1) dM_sameLetters_15 (by decide) ?_
    refine ev_goto (tgt := 20) dM_sameLetters_16 (by decide) ?_
    refine ev_is dM_sameLetters_20 rfl (Nat.le_of_ble_eq_true rfl) ?_
    refine ev_const (v := nI 0) dM_sameLetters_21 (by decide) ?_
    refine ev_is dM_sameLetters_22 rfl (Nat.le_of_ble_eq_true rfl) ?_
    first
    | (refine r_sameL hP hk hk2 ha2 (tk ts k).2.1 0 true _ (by omega) (fun _ => h12) rfl rfl rfl rfl rfl ?_
       unfold mSm
       rw [decide_eq_true h12]
       exact ⟨rfl, rfl⟩)
    | (refine r_sameL hP hk hk2 ha2 (tk ts k).2.1 0 false _ (by omega) (fun h => by cases h) rfl rfl rfl rfl rfl ?_
       unfold mSm
       rw [decide_eq_false h12]
       exact ⟨rfl, rfl⟩)
set_option maxRecDepth 100000 in
set_option maxHeartbeats 4000000 in
theorem r_namedL {e k : Nat} {t : Nat → Nat} {ts : List (Nat × Nat × Nat)} (hP : M.2.1 = zP0 n b) (hk : MTk M e t ts) (hk2 : k < ts.length) {of : Nat} {df : Nat → Bool} {fi : Nat → Nat} (hof : of ≤ 160) (hF : ∀ j, j < of → M.1 35 j = nI (fi j) ∧ fi j < ts.length ∧ M.1 39 j = nI (df j).toNat) {R : Option Int32 → zM → Prop} : ∀ (f j : Nat) (v : Int32) (L : Nat → Value), j + f = of → L 0 = .ref 25 → L 1 = .int (nI of) → L 2 = .int (nI k) → L 3 = .int v → L 4 = .int (nI j) → R (some (mNam df (mSm t ts) fi (M.1 41) k f j v)) M → Ev Lx xs (d + 1) mM_named 5 L [] M (zpost mM_named R) := by
  have he := hk.1.2.1
  have hlen := hk.2.2.1.2.1
  obtain ⟨hq1, hq2, hq3⟩ := hk.2.1.2 k _ (tk_at hk2)
  have hin := tV_in hk.2.2.1 hk2
  intro f
  induction f with
  | zero =>
    intro j v L hf hL0 hL1 hL2 hL3 hL4 hR
    refine ev_il dM_named_5 rfl (by first | assumption | rfl) ?_
    refine ev_il dM_named_7 rfl (by first | assumption | rfl) ?_
    refine ev_icmp (tgt := 54) dM_named_8 (by decide) (fun h8 => ?_) (fun h8 => ?_)
    · try simp (disch := omega) only [zcond, nI_ltI, nI_leI, nI_eq, zb0, Classical.not_not, Bool.not_eq_false, Bool.not_eq_true, Nat.not_lt, Nat.not_le] at h8
      refine ev_il dM_named_54 rfl (by first | assumption | rfl) ?_
      refine ev_ret dM_named_55 rfl rfl ?_
      exact hR
    · first | omega | (simp (disch := omega) only [zcond, nI_ltI, nI_leI, nI_eq] at h8; omega)
  | succ f ih =>
    intro j v L hf hL0 hL1 hL2 hL3 hL4 hR
    refine ev_il dM_named_5 rfl (by first | assumption | rfl) ?_
    refine ev_il dM_named_7 rfl (by first | assumption | rfl) ?_
    refine ev_icmp (tgt := 54) dM_named_8 (by decide) (fun h8 => ?_) (fun h8 => ?_)
    · first | omega | (simp (disch := omega) only [zcond, nI_ltI, nI_leI, nI_eq] at h8; omega)
    · try simp (disch := omega) only [zcond, nI_ltI, nI_leI, nI_eq, zb0, Classical.not_not, Bool.not_eq_false, Bool.not_eq_true, Nat.not_lt, Nat.not_le] at h8
      refine ev_al dM_named_11 rfl (by first | assumption | rfl) ?_
      refine ev_getrP dM_named_12 fM_51 rfl (zq (q := 39) hP rfl) ?_
      refine ev_il dM_named_15 rfl (by first | assumption | rfl) ?_
      refine ev_aldN dM_named_17 rfl rfl (by omega) ?_
      rw [(hF j (by omega)).2.2]
      refine ev_if0 (tgt := 46) dM_named_18 (by decide) (fun h18 => ?_) (fun h18 => ?_)
      · simp only [zcond, zb0, Classical.not_not, Bool.not_eq_false, Bool.not_eq_true] at h18
        refine ev_il dM_named_46 rfl (by first | assumption | rfl) ?_
        refine ev_is dM_named_47 rfl (Nat.le_of_ble_eq_true rfl) ?_
        refine ev_inc1 dM_named_48 (by first | assumption | rfl) ?_
        refine ev_goto (tgt := 5) dM_named_51 (by decide) ?_
        first
        | (refine ih (j + 1) _ _ (by omega) (by first | assumption | rfl) (by first | assumption | rfl) (by first | assumption | rfl) rfl rfl ?_
           rw [mNam, if_pos (And.intro h18 h33)] at hR
           exact hR)
        | (refine ih (j + 1) v _ (by omega) (by first | assumption | rfl) (by first | assumption | rfl) (by first | assumption | rfl) (by first | assumption | rfl) rfl ?_
           rw [mNam, if_neg (by rintro ⟨g1, g2⟩; first | (rw [g1] at h18; cases h18; done) | (rw [g2] at h33; cases h33; done))] at hR
           exact hR)
      · simp only [zcond, zb0, Classical.not_not, Bool.not_eq_false, Bool.not_eq_true] at h18
        refine ev_al dM_named_21 rfl (by first | assumption | rfl) ?_
        refine ev_al dM_named_22 rfl (by first | assumption | rfl) ?_
        refine ev_getrP dM_named_23 fM_38 rfl (zq (q := 35) hP rfl) ?_
        refine ev_il dM_named_26 rfl (by first | assumption | rfl) ?_
        refine ev_aldN dM_named_28 rfl rfl (by omega) ?_
        rw [(hF j (by omega)).1]
        refine ev_il dM_named_29 rfl (by first | assumption | rfl) ?_
        refine ev_pV dM_named_30 (r_sameLetters hP hk hk2 (hF j (by omega)).2.1) lM_187 rec_M rfl (Nat.le_of_ble_eq_true rfl) rfl (Nat.le_of_ble_eq_true rfl) ?_
        refine ev_if0 (tgt := 46) dM_named_33 (by decide) (fun h33 => ?_) (fun h33 => ?_)
        · simp only [zcond, zb0, Classical.not_not, Bool.not_eq_false, Bool.not_eq_true] at h33
          refine ev_il dM_named_46 rfl (by first | assumption | rfl) ?_
          refine ev_is dM_named_47 rfl (Nat.le_of_ble_eq_true rfl) ?_
          refine ev_inc1 dM_named_48 (by first | assumption | rfl) ?_
          refine ev_goto (tgt := 5) dM_named_51 (by decide) ?_
          first
          | (refine ih (j + 1) _ _ (by omega) (by first | assumption | rfl) (by first | assumption | rfl) (by first | assumption | rfl) rfl rfl ?_
             rw [mNam, if_pos (And.intro h18 h33)] at hR
             exact hR)
          | (refine ih (j + 1) v _ (by omega) (by first | assumption | rfl) (by first | assumption | rfl) (by first | assumption | rfl) (by first | assumption | rfl) rfl ?_
             rw [mNam, if_neg (by rintro ⟨g1, g2⟩; first | (rw [g1] at h18; cases h18; done) | (rw [g2] at h33; cases h33; done))] at hR
             exact hR)
        · simp only [zcond, zb0, Classical.not_not, Bool.not_eq_false, Bool.not_eq_true] at h33
          refine ev_al dM_named_36 rfl (by first | assumption | rfl) ?_
          refine ev_getrP dM_named_37 fM_57 rfl (zq (q := 41) hP rfl) ?_
          refine ev_il dM_named_40 rfl (by first | assumption | rfl) ?_
          refine ev_aldN dM_named_42 rfl rfl (by omega) ?_
          refine ev_goto (tgt := 47) dM_named_43 (by decide) ?_
          refine ev_is dM_named_47 rfl (Nat.le_of_ble_eq_true rfl) ?_
          refine ev_inc1 dM_named_48 (by first | assumption | rfl) ?_
          refine ev_goto (tgt := 5) dM_named_51 (by decide) ?_
          first
          | (refine ih (j + 1) _ _ (by omega) (by first | assumption | rfl) (by first | assumption | rfl) (by first | assumption | rfl) rfl rfl ?_
             rw [mNam, if_pos (And.intro h18 h33)] at hR
             exact hR)
          | (refine ih (j + 1) v _ (by omega) (by first | assumption | rfl) (by first | assumption | rfl) (by first | assumption | rfl) (by first | assumption | rfl) rfl ?_
             rw [mNam, if_neg (by rintro ⟨g1, g2⟩; first | (rw [g1] at h18; cases h18; done) | (rw [g2] at h33; cases h33; done))] at hR
             exact hR)
set_option maxRecDepth 100000 in
set_option maxHeartbeats 4000000 in
theorem r_named {e k : Nat} {t : Nat → Nat} {ts : List (Nat × Nat × Nat)} (hP : M.2.1 = zP0 n b) (hk : MTk M e t ts) (hk2 : k < ts.length) {of : Nat} {df : Nat → Bool} {fi : Nat → Nat} (hof : of ≤ 160) (hF : ∀ j, j < of → M.1 35 j = nI (fi j) ∧ fi j < ts.length ∧ M.1 39 j = nI (df j).toNat) : Pu Lx xs (d + 1) mM_named [.ref 25, .int (nI of), .int (nI k)] M (mNam df (mSm t ts) fi (M.1 41) k of 0 (nI 0)) := by
  unfold Pu Ct
  refine ev_const (v := nI 0) dM_named_0 (by decide) ?_
  refine ev_is dM_named_1 rfl (Nat.le_of_ble_eq_true rfl) ?_
  refine ev_const (v := nI 0) dM_named_2 (by decide) ?_
  refine ev_is dM_named_3 rfl (Nat.le_of_ble_eq_true rfl) ?_
  exact r_namedL hP hk hk2 hof hF of 0 (nI 0) _ (by omega) rfl rfl rfl rfl rfl ⟨rfl, rfl⟩
set_option maxRecDepth 100000 in
set_option maxHeartbeats 4000000 in
theorem r_cntL {k C : Nat} (hP : M.2.1 = zP0 n b) (hk : k < 160) (hc : M.1 25 14 = nI C) (hC : C ≤ 160) {R : Option Int32 → zM → Prop} : ∀ (f j c : Nat) (L : Nat → Value), j + f = C → L 0 = .ref 25 → L 1 = .int (nI k) → L 2 = .int (nI c) → L 3 = .int (nI j) → R (some (nI (mCnt (M.1 35) (M.1 36) (M.1 37) k f j c))) M → Ev Lx xs d mM_countInside 6 L [] M (zpost mM_countInside R) := by
  intro f
  induction f with
  | zero =>
    intro j c L hf hL0 hL1 hL2 hL3 hR
    refine ev_il dM_countInside_6 rfl (by first | assumption | rfl) ?_
    refine ev_al dM_countInside_7 rfl (by first | assumption | rfl) ?_
    refine ev_geti dM_countInside_8 fM_146 rfl ?_
    rw [hc]
    refine ev_icmp (tgt := 60) dM_countInside_11 (by decide) (fun h11 => ?_) (fun h11 => ?_)
    · try simp (disch := omega) only [zcond, nI_ltI, nI_leI, nI_eq, zb0, Classical.not_not, Bool.not_eq_false, Bool.not_eq_true, Nat.not_lt, Nat.not_le] at h11
      refine ev_il dM_countInside_60 rfl (by first | assumption | rfl) ?_
      refine ev_ret dM_countInside_61 rfl rfl ?_
      exact hR
    · first | omega | (simp (disch := omega) only [zcond, nI_ltI, nI_leI, nI_eq] at h11; omega)
  | succ f ih =>
    intro j c L hf hL0 hL1 hL2 hL3 hR
    refine ev_il dM_countInside_6 rfl (by first | assumption | rfl) ?_
    refine ev_al dM_countInside_7 rfl (by first | assumption | rfl) ?_
    refine ev_geti dM_countInside_8 fM_146 rfl ?_
    rw [hc]
    refine ev_icmp (tgt := 60) dM_countInside_11 (by decide) (fun h11 => ?_) (fun h11 => ?_)
    · first | omega | (simp (disch := omega) only [zcond, nI_ltI, nI_leI, nI_eq] at h11; omega)
    · try simp (disch := omega) only [zcond, nI_ltI, nI_leI, nI_eq, zb0, Classical.not_not, Bool.not_eq_false, Bool.not_eq_true, Nat.not_lt, Nat.not_le] at h11
      refine ev_al dM_countInside_14 rfl (by first | assumption | rfl) ?_
      refine ev_getrP dM_countInside_15 fM_38 rfl (zq (q := 35) hP rfl) ?_
      refine ev_il dM_countInside_18 rfl (by first | assumption | rfl) ?_
      refine ev_aldN dM_countInside_19 rfl rfl (by omega) ?_
      refine ev_al dM_countInside_20 rfl (by first | assumption | rfl) ?_
      refine ev_getrP dM_countInside_21 fM_41 rfl (zq (q := 36) hP rfl) ?_
      refine ev_il dM_countInside_24 rfl (by first | assumption | rfl) ?_
      refine ev_aldN dM_countInside_25 rfl rfl (by omega) ?_
      refine ev_icmp (tgt := 52) dM_countInside_26 (by decide) (fun h26 => ?_) (fun h26 => ?_)
      · simp only [zcond] at h26
        refine ev_il dM_countInside_52 rfl (by first | assumption | rfl) ?_
        refine ev_is dM_countInside_53 rfl (Nat.le_of_ble_eq_true rfl) ?_
        refine ev_inc1 dM_countInside_54 (by first | assumption | rfl) ?_
        refine ev_goto (tgt := 6) dM_countInside_57 (by decide) ?_
        first
        | (refine ih (j + 1) (c + 1) _ (by omega) (by first | assumption | rfl) (by first | assumption | rfl) rfl rfl ?_
           rw [mCnt, if_pos (And.intro (Int32.not_le.mp h26) h43)] at hR
           exact hR)
        | (refine ih (j + 1) c _ (by omega) (by first | assumption | rfl) (by first | assumption | rfl) (by first | assumption | rfl) rfl ?_
           rw [mCnt, if_neg (by rintro ⟨g1, g2⟩; first | exact h43 g2 | exact Int32.not_le.mpr g1 h26)] at hR
           exact hR)
      · simp only [zcond] at h26
        refine ev_al dM_countInside_29 rfl (by first | assumption | rfl) ?_
        refine ev_getrP dM_countInside_30 fM_44 rfl (zq (q := 37) hP rfl) ?_
        refine ev_il dM_countInside_33 rfl (by first | assumption | rfl) ?_
        refine ev_aldN dM_countInside_34 rfl rfl (by omega) ?_
        refine ev_al dM_countInside_35 rfl (by first | assumption | rfl) ?_
        refine ev_getrP dM_countInside_36 fM_44 rfl (zq (q := 37) hP rfl) ?_
        refine ev_il dM_countInside_39 rfl (by first | assumption | rfl) ?_
        refine ev_aldN dM_countInside_40 rfl rfl (by omega) ?_
        refine ev_const (v := nI 1) dM_countInside_41 (by decide) ?_
        refine ev_add dM_countInside_42 ?_
        refine ev_icmp (tgt := 52) dM_countInside_43 (by decide) (fun h43 => ?_) (fun h43 => ?_)
        · simp only [zcond, Classical.not_not] at h43
          refine ev_il dM_countInside_52 rfl (by first | assumption | rfl) ?_
          refine ev_is dM_countInside_53 rfl (Nat.le_of_ble_eq_true rfl) ?_
          refine ev_inc1 dM_countInside_54 (by first | assumption | rfl) ?_
          refine ev_goto (tgt := 6) dM_countInside_57 (by decide) ?_
          first
          | (refine ih (j + 1) (c + 1) _ (by omega) (by first | assumption | rfl) (by first | assumption | rfl) rfl rfl ?_
             rw [mCnt, if_pos (And.intro (Int32.not_le.mp h26) h43)] at hR
             exact hR)
          | (refine ih (j + 1) c _ (by omega) (by first | assumption | rfl) (by first | assumption | rfl) (by first | assumption | rfl) rfl ?_
             rw [mCnt, if_neg (by rintro ⟨g1, g2⟩; first | exact h43 g2 | exact Int32.not_le.mpr g1 h26)] at hR
             exact hR)
        · simp only [zcond, Classical.not_not] at h43
          refine ev_il dM_countInside_46 rfl (by first | assumption | rfl) ?_
          refine ev_const (v := nI 1) dM_countInside_47 (by decide) ?_
          first | with_reducible refine ev_addN dM_countInside_48 ?_ | refine ev_add dM_countInside_48 ?_
          refine ev_goto (tgt := 53) dM_countInside_49 (by decide) ?_
          refine ev_is dM_countInside_53 rfl (Nat.le_of_ble_eq_true rfl) ?_
          refine ev_inc1 dM_countInside_54 (by first | assumption | rfl) ?_
          refine ev_goto (tgt := 6) dM_countInside_57 (by decide) ?_
          first
          | (refine ih (j + 1) (c + 1) _ (by omega) (by first | assumption | rfl) (by first | assumption | rfl) rfl rfl ?_
             rw [mCnt, if_pos (And.intro (Int32.not_le.mp h26) h43)] at hR
             exact hR)
          | (refine ih (j + 1) c _ (by omega) (by first | assumption | rfl) (by first | assumption | rfl) (by first | assumption | rfl) rfl ?_
             rw [mCnt, if_neg (by rintro ⟨g1, g2⟩; first | exact h43 g2 | exact Int32.not_le.mpr g1 h26)] at hR
             exact hR)
set_option maxRecDepth 100000 in
set_option maxHeartbeats 4000000 in
theorem r_countInside {k C : Nat} (hP : M.2.1 = zP0 n b) (hk : k < C) (hc : M.1 25 14 = nI C) (hC : C ≤ 160) : Pu Lx xs d mM_countInside [.ref 25, .int (nI k)] M (nI (mCnt (M.1 35) (M.1 36) (M.1 37) k (C - (k + 1)) (k + 1) 0)) := by
  unfold Pu Ct
  refine ev_const (v := nI 0) dM_countInside_0 (by decide) ?_
  refine ev_is dM_countInside_1 rfl (Nat.le_of_ble_eq_true rfl) ?_
  refine ev_il dM_countInside_2 rfl (by first | assumption | rfl) ?_
  refine ev_const (v := nI 1) dM_countInside_3 (by decide) ?_
  first | with_reducible refine ev_addN dM_countInside_4 ?_ | refine ev_add dM_countInside_4 ?_
  refine ev_is dM_countInside_5 rfl (Nat.le_of_ble_eq_true rfl) ?_
  exact r_cntL hP (by omega) hc hC (C - (k + 1)) (k + 1) 0 _ (by omega) rfl rfl rfl rfl ⟨rfl, rfl⟩
end
