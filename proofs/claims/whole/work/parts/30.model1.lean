/- the reference: its tokens (rows laid by program) -/
def TxM (M : zM) (t : Nat → Nat) (e : Nat) : Prop := M.1 25 1 = nI e ∧ e ≤ 160 ∧ ∀ i, i < e → M.1 26 i = nI (t i) ∧ t i < 128
def TkM (M : zM) (ts : List (Nat × Nat × Nat)) : Prop := M.1 25 5 = nI ts.length ∧ ∀ (k : Nat) (q : Nat × Nat × Nat), ts[k]? = some q → M.1 28 k = nI q.1 ∧ M.1 29 k = nI q.2.1 ∧ M.1 30 k = nI q.2.2
def aTk (M : zM) (k : Nat) (q : Nat × Nat × Nat) : zM := zI (zI (zI (zI M 28 k (nI q.1)) 29 k (nI q.2.1)) 30 k (nI q.2.2)) 25 5 (nI (k + 1))
section
variable {Lx : Nat} {xs : Nat → Int32} {d : Nat} {M : zM} {n b : Nat}
set_option maxRecDepth 100000 in
set_option maxHeartbeats 4000000 in
theorem r_isLetter {c : Nat} (hc : c < 65536) : Pu Lx xs d mM_isLetter [.int (nI c)] M (nI (lLet c).toNat) := by
  unfold Pu Ct
  refine ev_il dM_isLetter_0 rfl (by first | assumption | rfl) ?_
  refine ev_const (v := nI 97) dM_isLetter_1 (by decide) ?_
  refine ev_icmp (tgt := 16) dM_isLetter_3 (by decide) (fun h3 => ?_) (fun h3 => ?_)
  · try simp (disch := omega) only [zcond, nI_ltI, nI_leI, nI_eq, zb0, Classical.not_not, Bool.not_eq_false, Bool.not_eq_true, Nat.not_lt, Nat.not_le] at h3
    refine ev_const (v := nI 0) dM_isLetter_16 (by decide) ?_
    refine ev_ret dM_isLetter_17 rfl rfl ?_
    first | exact ⟨zbt (by simp [lLet]; omega), rfl⟩ | exact ⟨zbf (by simp [lLet]; omega), rfl⟩
  · try simp (disch := omega) only [zcond, nI_ltI, nI_leI, nI_eq, zb0, Classical.not_not, Bool.not_eq_false, Bool.not_eq_true, Nat.not_lt, Nat.not_le] at h3
    refine ev_il dM_isLetter_6 rfl (by first | assumption | rfl) ?_
    refine ev_const (v := nI 122) dM_isLetter_7 (by decide) ?_
    refine ev_icmp (tgt := 16) dM_isLetter_9 (by decide) (fun h9 => ?_) (fun h9 => ?_)
    · try simp (disch := omega) only [zcond, nI_ltI, nI_leI, nI_eq, zb0, Classical.not_not, Bool.not_eq_false, Bool.not_eq_true, Nat.not_lt, Nat.not_le] at h9
      refine ev_const (v := nI 0) dM_isLetter_16 (by decide) ?_
      refine ev_ret dM_isLetter_17 rfl rfl ?_
      first | exact ⟨zbt (by simp [lLet]; omega), rfl⟩ | exact ⟨zbf (by simp [lLet]; omega), rfl⟩
    · try simp (disch := omega) only [zcond, nI_ltI, nI_leI, nI_eq, zb0, Classical.not_not, Bool.not_eq_false, Bool.not_eq_true, Nat.not_lt, Nat.not_le] at h9
      refine ev_const (v := nI 1) dM_isLetter_12 (by decide) ?_
      refine ev_goto (tgt := 17) dM_isLetter_13 (by decide) ?_
      refine ev_ret dM_isLetter_17 rfl rfl ?_
      first | exact ⟨zbt (by simp [lLet]; omega), rfl⟩ | exact ⟨zbf (by simp [lLet]; omega), rfl⟩
set_option maxRecDepth 100000 in
set_option maxHeartbeats 4000000 in
theorem r_isDigit {c : Nat} (hc : c < 65536) : Pu Lx xs d mM_isDigit [.int (nI c)] M (nI (lDig c).toNat) := by
  unfold Pu Ct
  refine ev_il dM_isDigit_0 rfl (by first | assumption | rfl) ?_
  refine ev_const (v := nI 48) dM_isDigit_1 (by decide) ?_
  refine ev_icmp (tgt := 16) dM_isDigit_3 (by decide) (fun h3 => ?_) (fun h3 => ?_)
  · try simp (disch := omega) only [zcond, nI_ltI, nI_leI, nI_eq, zb0, Classical.not_not, Bool.not_eq_false, Bool.not_eq_true, Nat.not_lt, Nat.not_le] at h3
    refine ev_const (v := nI 0) dM_isDigit_16 (by decide) ?_
    refine ev_ret dM_isDigit_17 rfl rfl ?_
    first | exact ⟨zbt (by simp [lDig]; omega), rfl⟩ | exact ⟨zbf (by simp [lDig]; omega), rfl⟩
  · try simp (disch := omega) only [zcond, nI_ltI, nI_leI, nI_eq, zb0, Classical.not_not, Bool.not_eq_false, Bool.not_eq_true, Nat.not_lt, Nat.not_le] at h3
    refine ev_il dM_isDigit_6 rfl (by first | assumption | rfl) ?_
    refine ev_const (v := nI 57) dM_isDigit_7 (by decide) ?_
    refine ev_icmp (tgt := 16) dM_isDigit_9 (by decide) (fun h9 => ?_) (fun h9 => ?_)
    · try simp (disch := omega) only [zcond, nI_ltI, nI_leI, nI_eq, zb0, Classical.not_not, Bool.not_eq_false, Bool.not_eq_true, Nat.not_lt, Nat.not_le] at h9
      refine ev_const (v := nI 0) dM_isDigit_16 (by decide) ?_
      refine ev_ret dM_isDigit_17 rfl rfl ?_
      first | exact ⟨zbt (by simp [lDig]; omega), rfl⟩ | exact ⟨zbf (by simp [lDig]; omega), rfl⟩
    · try simp (disch := omega) only [zcond, nI_ltI, nI_leI, nI_eq, zb0, Classical.not_not, Bool.not_eq_false, Bool.not_eq_true, Nat.not_lt, Nat.not_le] at h9
      refine ev_const (v := nI 1) dM_isDigit_12 (by decide) ?_
      refine ev_goto (tgt := 17) dM_isDigit_13 (by decide) ?_
      refine ev_ret dM_isDigit_17 rfl rfl ?_
      first | exact ⟨zbt (by simp [lDig]; omega), rfl⟩ | exact ⟨zbf (by simp [lDig]; omega), rfl⟩
set_option maxRecDepth 100000 in
set_option maxHeartbeats 4000000 in
theorem r_isSign {c : Nat} (hc : c < 65536) : Pu Lx xs d mM_isSign [.int (nI c)] M (nI (lSig c).toNat) := by
  unfold Pu Ct
  refine ev_il dM_isSign_0 rfl (by first | assumption | rfl) ?_
  refine ev_const (v := nI 61) dM_isSign_1 (by decide) ?_
  refine ev_icmp (tgt := 60) dM_isSign_3 (by decide) (fun h3 => ?_) (fun h3 => ?_)
  · try simp (disch := omega) only [zcond, nI_ltI, nI_leI, nI_eq, zb0, Classical.not_not, Bool.not_eq_false, Bool.not_eq_true, Nat.not_lt, Nat.not_le] at h3
    refine ev_const (v := nI 1) dM_isSign_60 (by decide) ?_
    refine ev_goto (tgt := 65) dM_isSign_61 (by decide) ?_
    refine ev_ret dM_isSign_65 rfl rfl ?_
    first | exact ⟨zbt (by simp [lSig]; omega), rfl⟩ | exact ⟨zbf (by simp [lSig]; omega), rfl⟩
  · try simp (disch := omega) only [zcond, nI_ltI, nI_leI, nI_eq, zb0, Classical.not_not, Bool.not_eq_false, Bool.not_eq_true, Nat.not_lt, Nat.not_le] at h3
    refine ev_il dM_isSign_6 rfl (by first | assumption | rfl) ?_
    refine ev_const (v := nI 59) dM_isSign_7 (by decide) ?_
    refine ev_icmp (tgt := 60) dM_isSign_9 (by decide) (fun h9 => ?_) (fun h9 => ?_)
    · try simp (disch := omega) only [zcond, nI_ltI, nI_leI, nI_eq, zb0, Classical.not_not, Bool.not_eq_false, Bool.not_eq_true, Nat.not_lt, Nat.not_le] at h9
      refine ev_const (v := nI 1) dM_isSign_60 (by decide) ?_
      refine ev_goto (tgt := 65) dM_isSign_61 (by decide) ?_
      refine ev_ret dM_isSign_65 rfl rfl ?_
      first | exact ⟨zbt (by simp [lSig]; omega), rfl⟩ | exact ⟨zbf (by simp [lSig]; omega), rfl⟩
    · try simp (disch := omega) only [zcond, nI_ltI, nI_leI, nI_eq, zb0, Classical.not_not, Bool.not_eq_false, Bool.not_eq_true, Nat.not_lt, Nat.not_le] at h9
      refine ev_il dM_isSign_12 rfl (by first | assumption | rfl) ?_
      refine ev_const (v := nI 43) dM_isSign_13 (by decide) ?_
      refine ev_icmp (tgt := 60) dM_isSign_15 (by decide) (fun h15 => ?_) (fun h15 => ?_)
      · try simp (disch := omega) only [zcond, nI_ltI, nI_leI, nI_eq, zb0, Classical.not_not, Bool.not_eq_false, Bool.not_eq_true, Nat.not_lt, Nat.not_le] at h15
        refine ev_const (v := nI 1) dM_isSign_60 (by decide) ?_
        refine ev_goto (tgt := 65) dM_isSign_61 (by decide) ?_
        refine ev_ret dM_isSign_65 rfl rfl ?_
        first | exact ⟨zbt (by simp [lSig]; omega), rfl⟩ | exact ⟨zbf (by simp [lSig]; omega), rfl⟩
      · try simp (disch := omega) only [zcond, nI_ltI, nI_leI, nI_eq, zb0, Classical.not_not, Bool.not_eq_false, Bool.not_eq_true, Nat.not_lt, Nat.not_le] at h15
        refine ev_il dM_isSign_18 rfl (by first | assumption | rfl) ?_
        refine ev_const (v := nI 45) dM_isSign_19 (by decide) ?_
        refine ev_icmp (tgt := 60) dM_isSign_21 (by decide) (fun h21 => ?_) (fun h21 => ?_)
        · try simp (disch := omega) only [zcond, nI_ltI, nI_leI, nI_eq, zb0, Classical.not_not, Bool.not_eq_false, Bool.not_eq_true, Nat.not_lt, Nat.not_le] at h21
          refine ev_const (v := nI 1) dM_isSign_60 (by decide) ?_
          refine ev_goto (tgt := 65) dM_isSign_61 (by decide) ?_
          refine ev_ret dM_isSign_65 rfl rfl ?_
          first | exact ⟨zbt (by simp [lSig]; omega), rfl⟩ | exact ⟨zbf (by simp [lSig]; omega), rfl⟩
        · try simp (disch := omega) only [zcond, nI_ltI, nI_leI, nI_eq, zb0, Classical.not_not, Bool.not_eq_false, Bool.not_eq_true, Nat.not_lt, Nat.not_le] at h21
          refine ev_il dM_isSign_24 rfl (by first | assumption | rfl) ?_
          refine ev_const (v := nI 42) dM_isSign_25 (by decide) ?_
          refine ev_icmp (tgt := 60) dM_isSign_27 (by decide) (fun h27 => ?_) (fun h27 => ?_)
          · try simp (disch := omega) only [zcond, nI_ltI, nI_leI, nI_eq, zb0, Classical.not_not, Bool.not_eq_false, Bool.not_eq_true, Nat.not_lt, Nat.not_le] at h27
            refine ev_const (v := nI 1) dM_isSign_60 (by decide) ?_
            refine ev_goto (tgt := 65) dM_isSign_61 (by decide) ?_
            refine ev_ret dM_isSign_65 rfl rfl ?_
            first | exact ⟨zbt (by simp [lSig]; omega), rfl⟩ | exact ⟨zbf (by simp [lSig]; omega), rfl⟩
          · try simp (disch := omega) only [zcond, nI_ltI, nI_leI, nI_eq, zb0, Classical.not_not, Bool.not_eq_false, Bool.not_eq_true, Nat.not_lt, Nat.not_le] at h27
            refine ev_il dM_isSign_30 rfl (by first | assumption | rfl) ?_
            refine ev_const (v := nI 40) dM_isSign_31 (by decide) ?_
            refine ev_icmp (tgt := 60) dM_isSign_33 (by decide) (fun h33 => ?_) (fun h33 => ?_)
            · try simp (disch := omega) only [zcond, nI_ltI, nI_leI, nI_eq, zb0, Classical.not_not, Bool.not_eq_false, Bool.not_eq_true, Nat.not_lt, Nat.not_le] at h33
              refine ev_const (v := nI 1) dM_isSign_60 (by decide) ?_
              refine ev_goto (tgt := 65) dM_isSign_61 (by decide) ?_
              refine ev_ret dM_isSign_65 rfl rfl ?_
              first | exact ⟨zbt (by simp [lSig]; omega), rfl⟩ | exact ⟨zbf (by simp [lSig]; omega), rfl⟩
            · try simp (disch := omega) only [zcond, nI_ltI, nI_leI, nI_eq, zb0, Classical.not_not, Bool.not_eq_false, Bool.not_eq_true, Nat.not_lt, Nat.not_le] at h33
              refine ev_il dM_isSign_36 rfl (by first | assumption | rfl) ?_
              refine ev_const (v := nI 41) dM_isSign_37 (by decide) ?_
              refine ev_icmp (tgt := 60) dM_isSign_39 (by decide) (fun h39 => ?_) (fun h39 => ?_)
              · try simp (disch := omega) only [zcond, nI_ltI, nI_leI, nI_eq, zb0, Classical.not_not, Bool.not_eq_false, Bool.not_eq_true, Nat.not_lt, Nat.not_le] at h39
                refine ev_const (v := nI 1) dM_isSign_60 (by decide) ?_
                refine ev_goto (tgt := 65) dM_isSign_61 (by decide) ?_
                refine ev_ret dM_isSign_65 rfl rfl ?_
                first | exact ⟨zbt (by simp [lSig]; omega), rfl⟩ | exact ⟨zbf (by simp [lSig]; omega), rfl⟩
              · try simp (disch := omega) only [zcond, nI_ltI, nI_leI, nI_eq, zb0, Classical.not_not, Bool.not_eq_false, Bool.not_eq_true, Nat.not_lt, Nat.not_le] at h39
                refine ev_il dM_isSign_42 rfl (by first | assumption | rfl) ?_
                refine ev_const (v := nI 123) dM_isSign_43 (by decide) ?_
                refine ev_icmp (tgt := 60) dM_isSign_45 (by decide) (fun h45 => ?_) (fun h45 => ?_)
                · try simp (disch := omega) only [zcond, nI_ltI, nI_leI, nI_eq, zb0, Classical.not_not, Bool.not_eq_false, Bool.not_eq_true, Nat.not_lt, Nat.not_le] at h45
                  refine ev_const (v := nI 1) dM_isSign_60 (by decide) ?_
                  refine ev_goto (tgt := 65) dM_isSign_61 (by decide) ?_
                  refine ev_ret dM_isSign_65 rfl rfl ?_
                  first | exact ⟨zbt (by simp [lSig]; omega), rfl⟩ | exact ⟨zbf (by simp [lSig]; omega), rfl⟩
                · try simp (disch := omega) only [zcond, nI_ltI, nI_leI, nI_eq, zb0, Classical.not_not, Bool.not_eq_false, Bool.not_eq_true, Nat.not_lt, Nat.not_le] at h45
                  refine ev_il dM_isSign_48 rfl (by first | assumption | rfl) ?_
                  refine ev_const (v := nI 125) dM_isSign_49 (by decide) ?_
                  refine ev_icmp (tgt := 60) dM_isSign_51 (by decide) (fun h51 => ?_) (fun h51 => ?_)
                  · try simp (disch := omega) only [zcond, nI_ltI, nI_leI, nI_eq, zb0, Classical.not_not, Bool.not_eq_false, Bool.not_eq_true, Nat.not_lt, Nat.not_le] at h51
                    refine ev_const (v := nI 1) dM_isSign_60 (by decide) ?_
                    refine ev_goto (tgt := 65) dM_isSign_61 (by decide) ?_
                    refine ev_ret dM_isSign_65 rfl rfl ?_
                    first | exact ⟨zbt (by simp [lSig]; omega), rfl⟩ | exact ⟨zbf (by simp [lSig]; omega), rfl⟩
                  · try simp (disch := omega) only [zcond, nI_ltI, nI_leI, nI_eq, zb0, Classical.not_not, Bool.not_eq_false, Bool.not_eq_true, Nat.not_lt, Nat.not_le] at h51
                    refine ev_il dM_isSign_54 rfl (by first | assumption | rfl) ?_
                    refine ev_const (v := nI 44) dM_isSign_55 (by decide) ?_
                    refine ev_icmp (tgt := 64) dM_isSign_57 (by decide) (fun h57 => ?_) (fun h57 => ?_)
                    · try simp (disch := omega) only [zcond, nI_ltI, nI_leI, nI_eq, zb0, Classical.not_not, Bool.not_eq_false, Bool.not_eq_true, Nat.not_lt, Nat.not_le] at h57
                      refine ev_const (v := nI 0) dM_isSign_64 (by decide) ?_
                      refine ev_ret dM_isSign_65 rfl rfl ?_
                      first | exact ⟨zbt (by simp [lSig]; omega), rfl⟩ | exact ⟨zbf (by simp [lSig]; omega), rfl⟩
                    · try simp (disch := omega) only [zcond, nI_ltI, nI_leI, nI_eq, zb0, Classical.not_not, Bool.not_eq_false, Bool.not_eq_true, Nat.not_lt, Nat.not_le] at h57
                      refine ev_const (v := nI 1) dM_isSign_60 (by decide) ?_
                      refine ev_goto (tgt := 65) dM_isSign_61 (by decide) ?_
                      refine ev_ret dM_isSign_65 rfl rfl ?_
                      first | exact ⟨zbt (by simp [lSig]; omega), rfl⟩ | exact ⟨zbf (by simp [lSig]; omega), rfl⟩
set_option maxRecDepth 100000 in
set_option maxHeartbeats 4000000 in
theorem r_skipL {t : Nat → Nat} {e : Nat} (hP : M.2.1 = zP0 n b) (hT : TxM M t e) {R : Option Int32 → zM → Prop} : ∀ (f p : Nat) (cm : Bool) (L : Nat → Value), p + f = e → L 0 = .ref 25 → L 3 = .int (nI cm.toNat) → L 2 = .int (nI p) → R (some (nI (lBl t f p cm))) M → Ev Lx xs d mM_skip 4 L [] M (zpost mM_skip R) := by
  have he := hT.2.1
  intro f
  induction f with
  | zero =>
    intro p cm L hpe hL0 hL3 hL2 hR
    rw [lBl] at hR
    refine ev_il dM_skip_4 rfl (by first | assumption | rfl) ?_
    refine ev_al dM_skip_5 rfl (by first | assumption | rfl) ?_
    refine ev_geti dM_skip_6 fM_103 rfl ?_
    rw [hT.1]
    refine ev_icmp (tgt := 87) dM_skip_9 (by decide) (fun h9 => ?_) (fun h9 => ?_)
    · try simp (disch := omega) only [zcond, nI_ltI, nI_leI, nI_eq, zb0, Classical.not_not, Bool.not_eq_false, Bool.not_eq_true, Nat.not_lt, Nat.not_le] at h9
      refine ev_il dM_skip_87 rfl (by first | assumption | rfl) ?_
      refine ev_ret dM_skip_88 rfl rfl ?_
      exact hR
    · first | omega | (simp (disch := omega) only [zcond, nI_ltI, nI_leI, nI_eq] at h9; omega)
  | succ f ih =>
    intro p cm L hpe hL0 hL3 hL2 hR
    rw [lBl] at hR
    cases cm with
    | true =>
      refine ev_il dM_skip_4 rfl (by first | assumption | rfl) ?_
      refine ev_al dM_skip_5 rfl (by first | assumption | rfl) ?_
      refine ev_geti dM_skip_6 fM_103 rfl ?_
      rw [hT.1]
      refine ev_icmp (tgt := 87) dM_skip_9 (by decide) (fun h9 => ?_) (fun h9 => ?_)
      · first | omega | (simp (disch := omega) only [zcond, nI_ltI, nI_leI, nI_eq] at h9; omega)
      · try simp (disch := omega) only [zcond, nI_ltI, nI_leI, nI_eq, zb0, Classical.not_not, Bool.not_eq_false, Bool.not_eq_true, Nat.not_lt, Nat.not_le] at h9
        refine ev_il dM_skip_12 rfl (by first | assumption | rfl) ?_
        refine ev_if0 (tgt := 49) dM_skip_13 (by decide) (fun h13 => ?_) (fun h13 => ?_)
        · try simp (disch := omega) only [zcond, nI_ltI, nI_leI, nI_eq, zb0, Classical.not_not, Bool.not_eq_false, Bool.not_eq_true, Nat.not_lt, Nat.not_le] at h13
          refine ev_al dM_skip_49 rfl (by first | assumption | rfl) ?_
          refine ev_getrP dM_skip_50 fM_7 rfl (zq (q := 26) hP rfl) ?_
          refine ev_il dM_skip_53 rfl (by first | assumption | rfl) ?_
          refine ev_aldN dM_skip_54 rfl rfl (by omega) ?_
          rw [(hT.2.2 p (by omega)).1]
          have htp := (hT.2.2 p (by omega)).2
          refine ev_const (v := nI 35) dM_skip_55 (by decide) ?_
          refine ev_icmp (tgt := 75) dM_skip_57 (by decide) (fun h57 => ?_) (fun h57 => ?_)
          · try simp (disch := omega) only [zcond, nI_ltI, nI_leI, nI_eq, zb0, Classical.not_not, Bool.not_eq_false, Bool.not_eq_true, Nat.not_lt, Nat.not_le] at h57
            refine ev_const (v := nI 1) dM_skip_75 (by decide) ?_
            refine ev_goto (tgt := 80) dM_skip_76 (by decide) ?_
            refine ev_is dM_skip_80 rfl (Nat.le_of_ble_eq_true rfl) ?_
            refine ev_inc1 dM_skip_81 (by first | assumption | rfl) ?_
            refine ev_goto (tgt := 4) dM_skip_84 (by decide) ?_
            first | exact ih (p + 1) false _ (by omega) (by first | assumption | rfl) rfl rfl (by (repeat' split at hR) <;> first | exact hR | (exfalso; omega) | (exfalso; simp_all)) | exact ih (p + 1) true _ (by omega) (by first | assumption | rfl) rfl rfl (by (repeat' split at hR) <;> first | exact hR | (exfalso; omega) | (exfalso; simp_all))
          · try simp (disch := omega) only [zcond, nI_ltI, nI_leI, nI_eq, zb0, Classical.not_not, Bool.not_eq_false, Bool.not_eq_true, Nat.not_lt, Nat.not_le] at h57
            refine ev_il dM_skip_60 rfl (by first | assumption | rfl) ?_
            refine ev_if0 (tgt := 79) dM_skip_61 (by decide) (fun h61 => ?_) (fun h61 => ?_)
            · first | exact absurd (show ¬ nI true.toNat = nI 0 by decide) h61 | exact absurd (show nI true.toNat = nI 0 by decide) h61 | exact absurd h61 (show ¬ nI true.toNat = nI 0 by decide)
            · try simp (disch := omega) only [zcond, nI_ltI, nI_leI, nI_eq, zb0, Classical.not_not, Bool.not_eq_false, Bool.not_eq_true, Nat.not_lt, Nat.not_le] at h61
              refine ev_al dM_skip_64 rfl (by first | assumption | rfl) ?_
              refine ev_getrP dM_skip_65 fM_7 rfl (zq (q := 26) hP rfl) ?_
              refine ev_il dM_skip_68 rfl (by first | assumption | rfl) ?_
              refine ev_aldN dM_skip_69 rfl rfl (by omega) ?_
              rw [(hT.2.2 p (by omega)).1]
              have htp := (hT.2.2 p (by omega)).2
              refine ev_const (v := nI 10) dM_skip_70 (by decide) ?_
              refine ev_icmp (tgt := 79) dM_skip_72 (by decide) (fun h72 => ?_) (fun h72 => ?_)
              · try simp (disch := omega) only [zcond, nI_ltI, nI_leI, nI_eq, zb0, Classical.not_not, Bool.not_eq_false, Bool.not_eq_true, Nat.not_lt, Nat.not_le] at h72
                refine ev_const (v := nI 0) dM_skip_79 (by decide) ?_
                refine ev_is dM_skip_80 rfl (Nat.le_of_ble_eq_true rfl) ?_
                refine ev_inc1 dM_skip_81 (by first | assumption | rfl) ?_
                refine ev_goto (tgt := 4) dM_skip_84 (by decide) ?_
                first | exact ih (p + 1) false _ (by omega) (by first | assumption | rfl) rfl rfl (by (repeat' split at hR) <;> first | exact hR | (exfalso; omega) | (exfalso; simp_all)) | exact ih (p + 1) true _ (by omega) (by first | assumption | rfl) rfl rfl (by (repeat' split at hR) <;> first | exact hR | (exfalso; omega) | (exfalso; simp_all))
              · try simp (disch := omega) only [zcond, nI_ltI, nI_leI, nI_eq, zb0, Classical.not_not, Bool.not_eq_false, Bool.not_eq_true, Nat.not_lt, Nat.not_le] at h72
                refine ev_const (v := nI 1) dM_skip_75 (by decide) ?_
                refine ev_goto (tgt := 80) dM_skip_76 (by decide) ?_
                refine ev_is dM_skip_80 rfl (Nat.le_of_ble_eq_true rfl) ?_
                refine ev_inc1 dM_skip_81 (by first | assumption | rfl) ?_
                refine ev_goto (tgt := 4) dM_skip_84 (by decide) ?_
                first | exact ih (p + 1) false _ (by omega) (by first | assumption | rfl) rfl rfl (by (repeat' split at hR) <;> first | exact hR | (exfalso; omega) | (exfalso; simp_all)) | exact ih (p + 1) true _ (by omega) (by first | assumption | rfl) rfl rfl (by (repeat' split at hR) <;> first | exact hR | (exfalso; omega) | (exfalso; simp_all))
        · first | exact absurd (show ¬ nI true.toNat = nI 0 by decide) h13 | exact absurd (show nI true.toNat = nI 0 by decide) h13 | exact absurd h13 (show ¬ nI true.toNat = nI 0 by decide)
    | false =>
      refine ev_il dM_skip_4 rfl (by first | assumption | rfl) ?_
      refine ev_al dM_skip_5 rfl (by first | assumption | rfl) ?_
      refine ev_geti dM_skip_6 fM_103 rfl ?_
      rw [hT.1]
      refine ev_icmp (tgt := 87) dM_skip_9 (by decide) (fun h9 => ?_) (fun h9 => ?_)
      · first | omega | (simp (disch := omega) only [zcond, nI_ltI, nI_leI, nI_eq] at h9; omega)
      · try simp (disch := omega) only [zcond, nI_ltI, nI_leI, nI_eq, zb0, Classical.not_not, Bool.not_eq_false, Bool.not_eq_true, Nat.not_lt, Nat.not_le] at h9
        refine ev_il dM_skip_12 rfl (by first | assumption | rfl) ?_
        refine ev_if0 (tgt := 49) dM_skip_13 (by decide) (fun h13 => ?_) (fun h13 => ?_)
        · first | exact absurd (show ¬ nI false.toNat = nI 0 by decide) h13 | exact absurd (show nI false.toNat = nI 0 by decide) h13 | exact absurd h13 (show ¬ nI false.toNat = nI 0 by decide)
        · try simp (disch := omega) only [zcond, nI_ltI, nI_leI, nI_eq, zb0, Classical.not_not, Bool.not_eq_false, Bool.not_eq_true, Nat.not_lt, Nat.not_le] at h13
          refine ev_al dM_skip_16 rfl (by first | assumption | rfl) ?_
          refine ev_getrP dM_skip_17 fM_7 rfl (zq (q := 26) hP rfl) ?_
          refine ev_il dM_skip_20 rfl (by first | assumption | rfl) ?_
          refine ev_aldN dM_skip_21 rfl rfl (by omega) ?_
          rw [(hT.2.2 p (by omega)).1]
          have htp := (hT.2.2 p (by omega)).2
          refine ev_const (v := nI 32) dM_skip_22 (by decide) ?_
          refine ev_icmp (tgt := 49) dM_skip_24 (by decide) (fun h24 => ?_) (fun h24 => ?_)
          · try simp (disch := omega) only [zcond, nI_ltI, nI_leI, nI_eq, zb0, Classical.not_not, Bool.not_eq_false, Bool.not_eq_true, Nat.not_lt, Nat.not_le] at h24
            refine ev_al dM_skip_49 rfl (by first | assumption | rfl) ?_
            refine ev_getrP dM_skip_50 fM_7 rfl (zq (q := 26) hP rfl) ?_
            refine ev_il dM_skip_53 rfl (by first | assumption | rfl) ?_
            refine ev_aldN dM_skip_54 rfl rfl (by omega) ?_
            rw [(hT.2.2 p (by omega)).1]
            have htp := (hT.2.2 p (by omega)).2
            refine ev_const (v := nI 35) dM_skip_55 (by decide) ?_
            refine ev_icmp (tgt := 75) dM_skip_57 (by decide) (fun h57 => ?_) (fun h57 => ?_)
            · try simp (disch := omega) only [zcond, nI_ltI, nI_leI, nI_eq, zb0, Classical.not_not, Bool.not_eq_false, Bool.not_eq_true, Nat.not_lt, Nat.not_le] at h57
              refine ev_const (v := nI 1) dM_skip_75 (by decide) ?_
              refine ev_goto (tgt := 80) dM_skip_76 (by decide) ?_
              refine ev_is dM_skip_80 rfl (Nat.le_of_ble_eq_true rfl) ?_
              refine ev_inc1 dM_skip_81 (by first | assumption | rfl) ?_
              refine ev_goto (tgt := 4) dM_skip_84 (by decide) ?_
              first | exact ih (p + 1) false _ (by omega) (by first | assumption | rfl) rfl rfl (by (repeat' split at hR) <;> first | exact hR | (exfalso; omega) | (exfalso; simp_all)) | exact ih (p + 1) true _ (by omega) (by first | assumption | rfl) rfl rfl (by (repeat' split at hR) <;> first | exact hR | (exfalso; omega) | (exfalso; simp_all))
            · try simp (disch := omega) only [zcond, nI_ltI, nI_leI, nI_eq, zb0, Classical.not_not, Bool.not_eq_false, Bool.not_eq_true, Nat.not_lt, Nat.not_le] at h57
              refine ev_il dM_skip_60 rfl (by first | assumption | rfl) ?_
              refine ev_if0 (tgt := 79) dM_skip_61 (by decide) (fun h61 => ?_) (fun h61 => ?_)
              · try simp (disch := omega) only [zcond, nI_ltI, nI_leI, nI_eq, zb0, Classical.not_not, Bool.not_eq_false, Bool.not_eq_true, Nat.not_lt, Nat.not_le] at h61
                refine ev_const (v := nI 0) dM_skip_79 (by decide) ?_
                refine ev_is dM_skip_80 rfl (Nat.le_of_ble_eq_true rfl) ?_
                refine ev_inc1 dM_skip_81 (by first | assumption | rfl) ?_
                refine ev_goto (tgt := 4) dM_skip_84 (by decide) ?_
                first | exact ih (p + 1) false _ (by omega) (by first | assumption | rfl) rfl rfl (by (repeat' split at hR) <;> first | exact hR | (exfalso; omega) | (exfalso; simp_all)) | exact ih (p + 1) true _ (by omega) (by first | assumption | rfl) rfl rfl (by (repeat' split at hR) <;> first | exact hR | (exfalso; omega) | (exfalso; simp_all))
              · first | exact absurd (show ¬ nI false.toNat = nI 0 by decide) h61 | exact absurd (show nI false.toNat = nI 0 by decide) h61 | exact absurd h61 (show ¬ nI false.toNat = nI 0 by decide)
          · try simp (disch := omega) only [zcond, nI_ltI, nI_leI, nI_eq, zb0, Classical.not_not, Bool.not_eq_false, Bool.not_eq_true, Nat.not_lt, Nat.not_le] at h24
            refine ev_al dM_skip_27 rfl (by first | assumption | rfl) ?_
            refine ev_getrP dM_skip_28 fM_7 rfl (zq (q := 26) hP rfl) ?_
            refine ev_il dM_skip_31 rfl (by first | assumption | rfl) ?_
            refine ev_aldN dM_skip_32 rfl rfl (by omega) ?_
            rw [(hT.2.2 p (by omega)).1]
            have htp := (hT.2.2 p (by omega)).2
            refine ev_const (v := nI 10) dM_skip_33 (by decide) ?_
            refine ev_icmp (tgt := 49) dM_skip_35 (by decide) (fun h35 => ?_) (fun h35 => ?_)
            · try simp (disch := omega) only [zcond, nI_ltI, nI_leI, nI_eq, zb0, Classical.not_not, Bool.not_eq_false, Bool.not_eq_true, Nat.not_lt, Nat.not_le] at h35
              refine ev_al dM_skip_49 rfl (by first | assumption | rfl) ?_
              refine ev_getrP dM_skip_50 fM_7 rfl (zq (q := 26) hP rfl) ?_
              refine ev_il dM_skip_53 rfl (by first | assumption | rfl) ?_
              refine ev_aldN dM_skip_54 rfl rfl (by omega) ?_
              rw [(hT.2.2 p (by omega)).1]
              have htp := (hT.2.2 p (by omega)).2
              refine ev_const (v := nI 35) dM_skip_55 (by decide) ?_
              refine ev_icmp (tgt := 75) dM_skip_57 (by decide) (fun h57 => ?_) (fun h57 => ?_)
              · try simp (disch := omega) only [zcond, nI_ltI, nI_leI, nI_eq, zb0, Classical.not_not, Bool.not_eq_false, Bool.not_eq_true, Nat.not_lt, Nat.not_le] at h57
                refine ev_const (v := nI 1) dM_skip_75 (by decide) ?_
                refine ev_goto (tgt := 80) dM_skip_76 (by decide) ?_
                refine ev_is dM_skip_80 rfl (Nat.le_of_ble_eq_true rfl) ?_
                refine ev_inc1 dM_skip_81 (by first | assumption | rfl) ?_
                refine ev_goto (tgt := 4) dM_skip_84 (by decide) ?_
                first | exact ih (p + 1) false _ (by omega) (by first | assumption | rfl) rfl rfl (by (repeat' split at hR) <;> first | exact hR | (exfalso; omega) | (exfalso; simp_all)) | exact ih (p + 1) true _ (by omega) (by first | assumption | rfl) rfl rfl (by (repeat' split at hR) <;> first | exact hR | (exfalso; omega) | (exfalso; simp_all))
              · try simp (disch := omega) only [zcond, nI_ltI, nI_leI, nI_eq, zb0, Classical.not_not, Bool.not_eq_false, Bool.not_eq_true, Nat.not_lt, Nat.not_le] at h57
                refine ev_il dM_skip_60 rfl (by first | assumption | rfl) ?_
                refine ev_if0 (tgt := 79) dM_skip_61 (by decide) (fun h61 => ?_) (fun h61 => ?_)
                · try simp (disch := omega) only [zcond, nI_ltI, nI_leI, nI_eq, zb0, Classical.not_not, Bool.not_eq_false, Bool.not_eq_true, Nat.not_lt, Nat.not_le] at h61
                  refine ev_const (v := nI 0) dM_skip_79 (by decide) ?_
                  refine ev_is dM_skip_80 rfl (Nat.le_of_ble_eq_true rfl) ?_
                  refine ev_inc1 dM_skip_81 (by first | assumption | rfl) ?_
                  refine ev_goto (tgt := 4) dM_skip_84 (by decide) ?_
                  first | exact ih (p + 1) false _ (by omega) (by first | assumption | rfl) rfl rfl (by (repeat' split at hR) <;> first | exact hR | (exfalso; omega) | (exfalso; simp_all)) | exact ih (p + 1) true _ (by omega) (by first | assumption | rfl) rfl rfl (by (repeat' split at hR) <;> first | exact hR | (exfalso; omega) | (exfalso; simp_all))
                · first | exact absurd (show ¬ nI false.toNat = nI 0 by decide) h61 | exact absurd (show nI false.toNat = nI 0 by decide) h61 | exact absurd h61 (show ¬ nI false.toNat = nI 0 by decide)
            · try simp (disch := omega) only [zcond, nI_ltI, nI_leI, nI_eq, zb0, Classical.not_not, Bool.not_eq_false, Bool.not_eq_true, Nat.not_lt, Nat.not_le] at h35
              refine ev_al dM_skip_38 rfl (by first | assumption | rfl) ?_
              refine ev_getrP dM_skip_39 fM_7 rfl (zq (q := 26) hP rfl) ?_
              refine ev_il dM_skip_42 rfl (by first | assumption | rfl) ?_
              refine ev_aldN dM_skip_43 rfl rfl (by omega) ?_
              rw [(hT.2.2 p (by omega)).1]
              have htp := (hT.2.2 p (by omega)).2
              refine ev_const (v := nI 35) dM_skip_44 (by decide) ?_
              refine ev_icmp (tgt := 87) dM_skip_46 (by decide) (fun h46 => ?_) (fun h46 => ?_)
              · try simp (disch := omega) only [zcond, nI_ltI, nI_leI, nI_eq, zb0, Classical.not_not, Bool.not_eq_false, Bool.not_eq_true, Nat.not_lt, Nat.not_le] at h46
                refine ev_il dM_skip_87 rfl (by first | assumption | rfl) ?_
                refine ev_ret dM_skip_88 rfl rfl ?_
                exact (by (repeat' split at hR) <;> first | exact hR | (exfalso; omega) | (exfalso; simp_all))
              · try simp (disch := omega) only [zcond, nI_ltI, nI_leI, nI_eq, zb0, Classical.not_not, Bool.not_eq_false, Bool.not_eq_true, Nat.not_lt, Nat.not_le] at h46
                refine ev_al dM_skip_49 rfl (by first | assumption | rfl) ?_
                refine ev_getrP dM_skip_50 fM_7 rfl (zq (q := 26) hP rfl) ?_
                refine ev_il dM_skip_53 rfl (by first | assumption | rfl) ?_
                refine ev_aldN dM_skip_54 rfl rfl (by omega) ?_
                rw [(hT.2.2 p (by omega)).1]
                have htp := (hT.2.2 p (by omega)).2
                refine ev_const (v := nI 35) dM_skip_55 (by decide) ?_
                refine ev_icmp (tgt := 75) dM_skip_57 (by decide) (fun h57 => ?_) (fun h57 => ?_)
                · try simp (disch := omega) only [zcond, nI_ltI, nI_leI, nI_eq, zb0, Classical.not_not, Bool.not_eq_false, Bool.not_eq_true, Nat.not_lt, Nat.not_le] at h57
                  refine ev_const (v := nI 1) dM_skip_75 (by decide) ?_
                  refine ev_goto (tgt := 80) dM_skip_76 (by decide) ?_
                  refine ev_is dM_skip_80 rfl (Nat.le_of_ble_eq_true rfl) ?_
                  refine ev_inc1 dM_skip_81 (by first | assumption | rfl) ?_
                  refine ev_goto (tgt := 4) dM_skip_84 (by decide) ?_
                  first | exact ih (p + 1) false _ (by omega) (by first | assumption | rfl) rfl rfl (by (repeat' split at hR) <;> first | exact hR | (exfalso; omega) | (exfalso; simp_all)) | exact ih (p + 1) true _ (by omega) (by first | assumption | rfl) rfl rfl (by (repeat' split at hR) <;> first | exact hR | (exfalso; omega) | (exfalso; simp_all))
                · try simp (disch := omega) only [zcond, nI_ltI, nI_leI, nI_eq, zb0, Classical.not_not, Bool.not_eq_false, Bool.not_eq_true, Nat.not_lt, Nat.not_le] at h57
                  refine ev_il dM_skip_60 rfl (by first | assumption | rfl) ?_
                  refine ev_if0 (tgt := 79) dM_skip_61 (by decide) (fun h61 => ?_) (fun h61 => ?_)
                  · try simp (disch := omega) only [zcond, nI_ltI, nI_leI, nI_eq, zb0, Classical.not_not, Bool.not_eq_false, Bool.not_eq_true, Nat.not_lt, Nat.not_le] at h61
                    refine ev_const (v := nI 0) dM_skip_79 (by decide) ?_
                    refine ev_is dM_skip_80 rfl (Nat.le_of_ble_eq_true rfl) ?_
                    refine ev_inc1 dM_skip_81 (by first | assumption | rfl) ?_
                    refine ev_goto (tgt := 4) dM_skip_84 (by decide) ?_
                    first | exact ih (p + 1) false _ (by omega) (by first | assumption | rfl) rfl rfl (by (repeat' split at hR) <;> first | exact hR | (exfalso; omega) | (exfalso; simp_all)) | exact ih (p + 1) true _ (by omega) (by first | assumption | rfl) rfl rfl (by (repeat' split at hR) <;> first | exact hR | (exfalso; omega) | (exfalso; simp_all))
                  · first | exact absurd (show ¬ nI false.toNat = nI 0 by decide) h61 | exact absurd (show nI false.toNat = nI 0 by decide) h61 | exact absurd h61 (show ¬ nI false.toNat = nI 0 by decide)
set_option maxRecDepth 100000 in
set_option maxHeartbeats 4000000 in
theorem r_skip {t : Nat → Nat} {e p : Nat} (hP : M.2.1 = zP0 n b) (hT : TxM M t e) (hp : p ≤ e) : Pu Lx xs d mM_skip [.ref 25, .int (nI p)] M (nI (lBl t (e - p) p false)) := by
  unfold Pu Ct
  refine ev_il dM_skip_0 rfl (by first | assumption | rfl) ?_
  refine ev_is dM_skip_1 rfl (Nat.le_of_ble_eq_true rfl) ?_
  refine ev_const (v := nI 0) dM_skip_2 (by decide) ?_
  refine ev_is dM_skip_3 rfl (Nat.le_of_ble_eq_true rfl) ?_
  exact r_skipL hP hT (e - p) p false _ (by omega) rfl rfl rfl ⟨rfl, rfl⟩
set_option maxRecDepth 100000 in
set_option maxHeartbeats 4000000 in
theorem r_addToken {k p q c : Nat} (hP : M.2.1 = zP0 n b) (hk : M.1 25 5 = nI k) (hk2 : k < 160) (hpq : p ≤ q) : Ct Lx xs d mM_addToken [.ref 25, .int (nI p), .int (nI q), .int (nI c)] M (fun z M' => z = none ∧ M' = aTk M k (p, q - p, c)) := by
  unfold Ct
  refine ev_al dM_addToken_0 rfl (by first | assumption | rfl) ?_
  refine ev_getrP dM_addToken_1 fM_16 rfl (zq (q := 28) hP rfl) ?_
  refine ev_al dM_addToken_4 rfl (by first | assumption | rfl) ?_
  refine ev_geti dM_addToken_5 fM_106 rfl ?_
  rw [hk]
  refine ev_il dM_addToken_8 rfl (by first | assumption | rfl) ?_
  refine ev_iastN dM_addToken_9 rfl (by omega) ?_
  refine ev_al dM_addToken_10 rfl (by first | assumption | rfl) ?_
  refine ev_getrP dM_addToken_11 fM_20 rfl (zq (q := 29) hP rfl) ?_
  refine ev_al dM_addToken_14 rfl (by first | assumption | rfl) ?_
  refine ev_geti dM_addToken_15 fM_106 rfl ?_
  rw [show (zI M 28 k (nI p)).1 25 5 = nI k from (zI_o (by omega)).trans hk]
  refine ev_il dM_addToken_18 rfl (by first | assumption | rfl) ?_
  refine ev_il dM_addToken_19 rfl (by first | assumption | rfl) ?_
  first | with_reducible refine ev_subN dM_addToken_20 (by omega) ?_ | refine ev_sub dM_addToken_20 ?_
  refine ev_iastN dM_addToken_21 rfl (by omega) ?_
  refine ev_al dM_addToken_22 rfl (by first | assumption | rfl) ?_
  refine ev_getrP dM_addToken_23 fM_23 rfl (zq (q := 30) hP rfl) ?_
  refine ev_al dM_addToken_26 rfl (by first | assumption | rfl) ?_
  refine ev_geti dM_addToken_27 fM_106 rfl ?_
  rw [show (zI (zI M 28 k (nI p)) 29 k (nI (q - p))).1 25 5 = nI k from (zI_o (by omega)).trans ((zI_o (by omega)).trans hk)]
  refine ev_il dM_addToken_30 rfl (by first | assumption | rfl) ?_
  refine ev_iastN dM_addToken_31 rfl (by omega) ?_
  refine ev_al dM_addToken_32 rfl (by first | assumption | rfl) ?_
  refine ev_stk dM_addToken_33 rfl ?_
  refine ev_geti dM_addToken_34 fM_106 rfl ?_
  rw [show (zI (zI (zI M 28 k (nI p)) 29 k (nI (q - p))) 30 k (nI c)).1 25 5 = nI k from (zI_o (by omega)).trans ((zI_o (by omega)).trans ((zI_o (by omega)).trans hk))]
  refine ev_const (v := nI 1) dM_addToken_37 (by decide) ?_
  first | with_reducible refine ev_addN dM_addToken_38 ?_ | refine ev_add dM_addToken_38 ?_
  refine ev_puti dM_addToken_39 fM_106 fwM_tokens rfl (vp_nar_int _) rfl ?_
  refine ev_vret dM_addToken_42 rfl ?_
  exact ⟨rfl, rfl⟩
theorem TxM.a {t : Nat → Nat} {e k : Nat} {q : Nat × Nat × Nat} (h : TxM M t e) : TxM (aTk M k q) t e :=
  ⟨(zI_k (by omega)).trans ((zI_o (by omega)).trans ((zI_o (by omega)).trans ((zI_o (by omega)).trans h.1))), h.2.1, fun i hi => ⟨(zI_o (by omega)).trans ((zI_o (by omega)).trans ((zI_o (by omega)).trans ((zI_o (by omega)).trans (h.2.2 i hi).1))), (h.2.2 i hi).2⟩⟩
set_option maxRecDepth 100000 in
set_option maxHeartbeats 4000000 in
theorem r_f188 {t : Nat → Nat} {e k p q c : Nat} (hP : M.2.1 = zP0 n b) (hT : TxM M t e) (hk : M.1 25 5 = nI k) (hk2 : k < 160) (hp : p < e) (hq : p < q ∧ q ≤ e) {Q : zQ} {L : Nat → Value} (hL0 : L 0 = .ref 25) (hL1 : L 1 = .int (nI p)) (hL3 : L 3 = .int (nI q)) (hL4 : L 4 = .int (nI c)) (hK : ∀ L' : Nat → Value, L' 0 = .ref 25 → L' 1 = .int (nI (lBl t (e - q) q false)) → Ev Lx xs (d + 1) mM_findTokens 11 L' [] (aTk M k (p, q - p, c)) Q) : Ev Lx xs (d + 1) mM_findTokens 188 L [] M Q := by
  refine ev_al dM_findTokens_188 rfl (by first | assumption | rfl) ?_
  refine ev_il dM_findTokens_189 rfl (by first | assumption | rfl) ?_
  refine ev_il dM_findTokens_190 rfl (by first | assumption | rfl) ?_
  refine ev_il dM_findTokens_191 rfl (by first | assumption | rfl) ?_
  refine ev_cV dM_findTokens_193 (r_addToken hP hk hk2 (by omega)) lM_123 rec_M rfl (Nat.le_of_ble_eq_true rfl) rfl (Nat.le_of_ble_eq_true rfl) (fun q M1 hq => ?_)
  obtain ⟨rfl, rfl⟩ := hq
  refine ev_al dM_findTokens_196 rfl (by first | assumption | rfl) ?_
  refine ev_il dM_findTokens_197 rfl (by first | assumption | rfl) ?_
  refine ev_pV dM_findTokens_198 (r_skip (M := aTk M k (p, q - p, c)) hP hT.a hq.2) lM_109 rec_M rfl (Nat.le_of_ble_eq_true rfl) rfl (Nat.le_of_ble_eq_true rfl) ?_
  refine ev_is dM_findTokens_201 rfl (Nat.le_of_ble_eq_true rfl) ?_
  refine ev_goto (tgt := 11) dM_findTokens_202 (by decide) ?_
  exact hK _ (by first | assumption | rfl) rfl
set_option maxRecDepth 100000 in
set_option maxHeartbeats 4000000 in
theorem r_fRun_l {t : Nat → Nat} {e p : Nat} {c : Int32} (hP : M.2.1 = zP0 n b) (hT : TxM M t e) {Q : zQ} : ∀ (f q : Nat) (L : Nat → Value), q + f = e → L 0 = .ref 25 → L 1 = .int (nI p) → L 2 = .int c → L 3 = .int (nI q) → L 4 = .int (nI 0) → (∀ L' : Nat → Value, L' 0 = .ref 25 → L' 1 = .int (nI p) → L' 2 = .int c → L' 3 = .int (nI (lRun lLet t f q)) → L' 4 = .int (nI 0) → Ev Lx xs (d + 1) mM_findTokens 123 L' [] M Q) → Ev Lx xs (d + 1) mM_findTokens 77 L [] M Q := by
  have he := hT.2.1
  intro f
  induction f with
  | zero =>
    intro q L hqe hL0 hL1 hL2 hL3 hL4 hK
    refine ev_il dM_findTokens_77 rfl (by first | assumption | rfl) ?_
    refine ev_al dM_findTokens_78 rfl (by first | assumption | rfl) ?_
    refine ev_geti dM_findTokens_79 fM_103 rfl ?_
    rw [hT.1]
    refine ev_icmp (tgt := 123) dM_findTokens_82 (by decide) (fun h82 => ?_) (fun h82 => ?_)
    · try simp (disch := omega) only [zcond, nI_ltI, nI_leI, nI_eq, zb0, Classical.not_not, Bool.not_eq_false, Bool.not_eq_true, Nat.not_lt, Nat.not_le] at h82
      exact hK L hL0 hL1 hL2 hL3 hL4
    · first | omega | (simp (disch := omega) only [zcond, nI_ltI, nI_leI, nI_eq] at h82; omega)
  | succ f ih =>
    intro q L hqe hL0 hL1 hL2 hL3 hL4 hK
    refine ev_il dM_findTokens_77 rfl (by first | assumption | rfl) ?_
    refine ev_al dM_findTokens_78 rfl (by first | assumption | rfl) ?_
    refine ev_geti dM_findTokens_79 fM_103 rfl ?_
    rw [hT.1]
    refine ev_icmp (tgt := 123) dM_findTokens_82 (by decide) (fun h82 => ?_) (fun h82 => ?_)
    · first | omega | (simp (disch := omega) only [zcond, nI_ltI, nI_leI, nI_eq] at h82; omega)
    · try simp (disch := omega) only [zcond, nI_ltI, nI_leI, nI_eq, zb0, Classical.not_not, Bool.not_eq_false, Bool.not_eq_true, Nat.not_lt, Nat.not_le] at h82
      refine ev_il dM_findTokens_85 rfl (by first | assumption | rfl) ?_
      refine ev_if0 (tgt := 105) dM_findTokens_87 (by decide) (fun h87 => ?_) (fun h87 => ?_)
      · exact absurd (show nI 0 = nI 0 from rfl) h87
      · try simp (disch := omega) only [zcond, nI_ltI, nI_leI, nI_eq, zb0, Classical.not_not, Bool.not_eq_false, Bool.not_eq_true, Nat.not_lt, Nat.not_le] at h87
        refine ev_al dM_findTokens_90 rfl (by first | assumption | rfl) ?_
        refine ev_getrP dM_findTokens_91 fM_7 rfl (zq (q := 26) hP rfl) ?_
        refine ev_il dM_findTokens_94 rfl (by first | assumption | rfl) ?_
        refine ev_aldN dM_findTokens_95 rfl rfl (by omega) ?_
        rw [(hT.2.2 q (by omega)).1]
        have htq := (hT.2.2 q (by omega)).2
        refine ev_pS dM_findTokens_96 (r_isLetter (by omega)) lM_113 rfl (Nat.le_of_ble_eq_true rfl) rfl (Nat.le_of_ble_eq_true rfl) ?_
        refine ev_if0 (tgt := 123) dM_findTokens_99 (by decide) (fun h99 => ?_) (fun h99 => ?_)
        · try simp (disch := omega) only [zcond, nI_ltI, nI_leI, nI_eq, zb0, Classical.not_not, Bool.not_eq_false, Bool.not_eq_true, Nat.not_lt, Nat.not_le] at h99
          rw [lRun, if_neg (by rw [h99]; decide)] at hK
          exact hK L hL0 hL1 hL2 hL3 hL4
        · try simp (disch := omega) only [zcond, nI_ltI, nI_leI, nI_eq, zb0, Classical.not_not, Bool.not_eq_false, Bool.not_eq_true, Nat.not_lt, Nat.not_le] at h99
          refine ev_goto (tgt := 117) dM_findTokens_102 (by decide) ?_
          refine ev_inc1 dM_findTokens_117 (by first | assumption | rfl) ?_
          refine ev_goto (tgt := 77) dM_findTokens_120 (by decide) ?_
          refine ih (q + 1) _ (by omega) (by first | assumption | rfl) (by first | assumption | rfl) (by first | assumption | rfl) rfl (by first | assumption | rfl) ?_
          rw [lRun, if_pos h99] at hK
          exact hK
set_option maxRecDepth 100000 in
set_option maxHeartbeats 4000000 in
theorem r_fRun_d {t : Nat → Nat} {e p : Nat} {c : Int32} (hP : M.2.1 = zP0 n b) (hT : TxM M t e) {Q : zQ} : ∀ (f q : Nat) (L : Nat → Value), q + f = e → L 0 = .ref 25 → L 1 = .int (nI p) → L 2 = .int c → L 3 = .int (nI q) → L 4 = .int (nI 1) → (∀ L' : Nat → Value, L' 0 = .ref 25 → L' 1 = .int (nI p) → L' 2 = .int c → L' 3 = .int (nI (lRun lDig t f q)) → L' 4 = .int (nI 1) → Ev Lx xs (d + 1) mM_findTokens 123 L' [] M Q) → Ev Lx xs (d + 1) mM_findTokens 77 L [] M Q := by
  have he := hT.2.1
  intro f
  induction f with
  | zero =>
    intro q L hqe hL0 hL1 hL2 hL3 hL4 hK
    refine ev_il dM_findTokens_77 rfl (by first | assumption | rfl) ?_
    refine ev_al dM_findTokens_78 rfl (by first | assumption | rfl) ?_
    refine ev_geti dM_findTokens_79 fM_103 rfl ?_
    rw [hT.1]
    refine ev_icmp (tgt := 123) dM_findTokens_82 (by decide) (fun h82 => ?_) (fun h82 => ?_)
    · try simp (disch := omega) only [zcond, nI_ltI, nI_leI, nI_eq, zb0, Classical.not_not, Bool.not_eq_false, Bool.not_eq_true, Nat.not_lt, Nat.not_le] at h82
      exact hK L hL0 hL1 hL2 hL3 hL4
    · first | omega | (simp (disch := omega) only [zcond, nI_ltI, nI_leI, nI_eq] at h82; omega)
  | succ f ih =>
    intro q L hqe hL0 hL1 hL2 hL3 hL4 hK
    refine ev_il dM_findTokens_77 rfl (by first | assumption | rfl) ?_
    refine ev_al dM_findTokens_78 rfl (by first | assumption | rfl) ?_
    refine ev_geti dM_findTokens_79 fM_103 rfl ?_
    rw [hT.1]
    refine ev_icmp (tgt := 123) dM_findTokens_82 (by decide) (fun h82 => ?_) (fun h82 => ?_)
    · first | omega | (simp (disch := omega) only [zcond, nI_ltI, nI_leI, nI_eq] at h82; omega)
    · try simp (disch := omega) only [zcond, nI_ltI, nI_leI, nI_eq, zb0, Classical.not_not, Bool.not_eq_false, Bool.not_eq_true, Nat.not_lt, Nat.not_le] at h82
      refine ev_il dM_findTokens_85 rfl (by first | assumption | rfl) ?_
      refine ev_if0 (tgt := 105) dM_findTokens_87 (by decide) (fun h87 => ?_) (fun h87 => ?_)
      · try simp (disch := omega) only [zcond, nI_ltI, nI_leI, nI_eq, zb0, Classical.not_not, Bool.not_eq_false, Bool.not_eq_true, Nat.not_lt, Nat.not_le] at h87
        refine ev_al dM_findTokens_105 rfl (by first | assumption | rfl) ?_
        refine ev_getrP dM_findTokens_106 fM_7 rfl (zq (q := 26) hP rfl) ?_
        refine ev_il dM_findTokens_109 rfl (by first | assumption | rfl) ?_
        refine ev_aldN dM_findTokens_110 rfl rfl (by omega) ?_
        rw [(hT.2.2 q (by omega)).1]
        have htq := (hT.2.2 q (by omega)).2
        refine ev_pS dM_findTokens_111 (r_isDigit (by omega)) lM_117 rfl (Nat.le_of_ble_eq_true rfl) rfl (Nat.le_of_ble_eq_true rfl) ?_
        refine ev_if0 (tgt := 123) dM_findTokens_114 (by decide) (fun h114 => ?_) (fun h114 => ?_)
        · try simp (disch := omega) only [zcond, nI_ltI, nI_leI, nI_eq, zb0, Classical.not_not, Bool.not_eq_false, Bool.not_eq_true, Nat.not_lt, Nat.not_le] at h114
          rw [lRun, if_neg (by rw [h114]; decide)] at hK
          exact hK L hL0 hL1 hL2 hL3 hL4
        · try simp (disch := omega) only [zcond, nI_ltI, nI_leI, nI_eq, zb0, Classical.not_not, Bool.not_eq_false, Bool.not_eq_true, Nat.not_lt, Nat.not_le] at h114
          refine ev_inc1 dM_findTokens_117 (by first | assumption | rfl) ?_
          refine ev_goto (tgt := 77) dM_findTokens_120 (by decide) ?_
          refine ih (q + 1) _ (by omega) (by first | assumption | rfl) (by first | assumption | rfl) (by first | assumption | rfl) rfl (by first | assumption | rfl) ?_
          rw [lRun, if_pos h114] at hK
          exact hK
      · exact absurd (show ¬ nI 1 = nI 0 by decide) h87
set_option maxRecDepth 100000 in
set_option maxHeartbeats 4000000 in
theorem r_fQuo {t : Nat → Nat} {e p : Nat} (hP : M.2.1 = zP0 n b) (hT : TxM M t e) {Q : zQ} : ∀ (f q : Nat) (L : Nat → Value), q + f = e → L 0 = .ref 25 → L 1 = .int (nI p) → L 3 = .int (nI q) → (∀ L' : Nat → Value, L' 0 = .ref 25 → L' 1 = .int (nI p) → L' 3 = .int (nI (lQuo t f q)) → Ev Lx xs (d + 1) mM_findTokens 154 L' [] M Q) → Ev Lx xs (d + 1) mM_findTokens 129 L [] M Q := by
  have he := hT.2.1
  intro f
  induction f with
  | zero =>
    intro q L hqe hL0 hL1 hL3 hK
    refine ev_il dM_findTokens_129 rfl (by first | assumption | rfl) ?_
    refine ev_al dM_findTokens_130 rfl (by first | assumption | rfl) ?_
    refine ev_geti dM_findTokens_131 fM_103 rfl ?_
    rw [hT.1]
    refine ev_icmp (tgt := 154) dM_findTokens_134 (by decide) (fun h134 => ?_) (fun h134 => ?_)
    · try simp (disch := omega) only [zcond, nI_ltI, nI_leI, nI_eq, zb0, Classical.not_not, Bool.not_eq_false, Bool.not_eq_true, Nat.not_lt, Nat.not_le] at h134
      exact hK L hL0 hL1 hL3
    · first | omega | (simp (disch := omega) only [zcond, nI_ltI, nI_leI, nI_eq] at h134; omega)
  | succ f ih =>
    intro q L hqe hL0 hL1 hL3 hK
    refine ev_il dM_findTokens_129 rfl (by first | assumption | rfl) ?_
    refine ev_al dM_findTokens_130 rfl (by first | assumption | rfl) ?_
    refine ev_geti dM_findTokens_131 fM_103 rfl ?_
    rw [hT.1]
    refine ev_icmp (tgt := 154) dM_findTokens_134 (by decide) (fun h134 => ?_) (fun h134 => ?_)
    · first | omega | (simp (disch := omega) only [zcond, nI_ltI, nI_leI, nI_eq] at h134; omega)
    · try simp (disch := omega) only [zcond, nI_ltI, nI_leI, nI_eq, zb0, Classical.not_not, Bool.not_eq_false, Bool.not_eq_true, Nat.not_lt, Nat.not_le] at h134
      refine ev_al dM_findTokens_137 rfl (by first | assumption | rfl) ?_
      refine ev_getrP dM_findTokens_138 fM_7 rfl (zq (q := 26) hP rfl) ?_
      refine ev_il dM_findTokens_141 rfl (by first | assumption | rfl) ?_
      refine ev_aldN dM_findTokens_142 rfl rfl (by omega) ?_
      rw [(hT.2.2 q (by omega)).1]
      have htq := (hT.2.2 q (by omega)).2
      refine ev_const (v := nI 34) dM_findTokens_143 (by decide) ?_
      refine ev_icmp (tgt := 154) dM_findTokens_145 (by decide) (fun h145 => ?_) (fun h145 => ?_)
      · try simp (disch := omega) only [zcond, nI_ltI, nI_leI, nI_eq, zb0, Classical.not_not, Bool.not_eq_false, Bool.not_eq_true, Nat.not_lt, Nat.not_le] at h145
        rw [lQuo, if_pos h145] at hK
        exact hK L hL0 hL1 hL3
      · try simp (disch := omega) only [zcond, nI_ltI, nI_leI, nI_eq, zb0, Classical.not_not, Bool.not_eq_false, Bool.not_eq_true, Nat.not_lt, Nat.not_le] at h145
        refine ev_inc1 dM_findTokens_148 (by first | assumption | rfl) ?_
        refine ev_goto (tgt := 129) dM_findTokens_151 (by decide) ?_
        refine ih (q + 1) _ (by omega) (by first | assumption | rfl) (by first | assumption | rfl) rfl ?_
        rw [lQuo, if_neg h145] at hK
        exact hK
set_option maxRecDepth 100000 in
set_option maxHeartbeats 4000000 in
theorem r_f64_l {t : Nat → Nat} {e k p : Nat} (hP : M.2.1 = zP0 n b) (hT : TxM M t e) (hk : M.1 25 5 = nI k) (hk2 : k < 160) (hp : p < e) (hx : lLet (t p) = true) {Q : zQ} {L : Nat → Value} (hL0 : L 0 = .ref 25) (hL1 : L 1 = .int (nI p)) (hL2 : L 2 = .int (nI (t p))) (hL3 : L 3 = .int (nI (p + 1))) (hK : ∀ L' : Nat → Value, L' 0 = .ref 25 → L' 1 = .int (nI (lBl t (e - lEnd t e p) (lEnd t e p) false)) → Ev Lx xs (d + 1) mM_findTokens 11 L' [] (aTk M k (p, lEnd t e p - p, lKind t e p)) Q) : Ev Lx xs (d + 1) mM_findTokens 64 L [.int (nI 0)] M Q := by
  have he := hT.2.1
  have htp := (hT.2.2 p hp).2
  have hle := lEnd_in t hp
  obtain ⟨f, hf⟩ : ∃ f, e - p = f + 1 := ⟨e - p - 1, by omega⟩
  have hne : ¬ t p = 34 := by intro h; rw [h] at hx; revert hx; decide
  have hE : lEnd t e p = lRun lLet t f (p + 1) := by
    unfold lEnd
    rw [if_neg hne, hf]
    rw [if_pos hx]
    rw [lRun, if_pos hx]
  have hK4 : lKind t e p = 0 := by unfold lKind; rw [if_neg hne]; rw [if_pos hx]
  refine ev_is dM_findTokens_64 rfl (Nat.le_of_ble_eq_true rfl) ?_
  refine ev_il dM_findTokens_66 rfl (by first | assumption | rfl) ?_
  refine ev_if0 (tgt := 77) dM_findTokens_68 (by decide) (fun h68 => ?_) (fun h68 => ?_)
  · try simp (disch := omega) only [zcond, nI_ltI, nI_leI, nI_eq, zb0, Classical.not_not, Bool.not_eq_false, Bool.not_eq_true, Nat.not_lt, Nat.not_le] at h68
    refine r_fRun_l hP hT f (p + 1) _ (by omega) (by first | assumption | rfl) (by first | assumption | rfl) (by first | assumption | rfl) (by first | assumption | rfl) rfl ?_
    intro L' hL0' hL1' hL2' hL3' hL4'
    rw [hK4] at hK
    rw [← hE] at hL3'
    refine ev_il dM_findTokens_123 rfl (by first | assumption | rfl) ?_
    refine ev_const (v := nI 34) dM_findTokens_124 (by decide) ?_
    refine ev_icmp (tgt := 188) dM_findTokens_126 (by decide) (fun h126 => ?_) (fun h126 => ?_)
    · try simp (disch := omega) only [zcond, nI_ltI, nI_leI, nI_eq, zb0, Classical.not_not, Bool.not_eq_false, Bool.not_eq_true, Nat.not_lt, Nat.not_le] at h126
      exact r_f188 hP hT hk hk2 hp hle hL0' hL1' hL3' hL4' hK
    · first | omega | (simp (disch := omega) only [zcond, nI_eq, Classical.not_not] at h126; exact (hne h126).elim)
  · exact absurd (show nI 0 = nI 0 from rfl) h68
set_option maxRecDepth 100000 in
set_option maxHeartbeats 4000000 in
theorem r_f64_d {t : Nat → Nat} {e k p : Nat} (hP : M.2.1 = zP0 n b) (hT : TxM M t e) (hk : M.1 25 5 = nI k) (hk2 : k < 160) (hp : p < e) (hx : lDig (t p) = true) {Q : zQ} {L : Nat → Value} (hL0 : L 0 = .ref 25) (hL1 : L 1 = .int (nI p)) (hL2 : L 2 = .int (nI (t p))) (hL3 : L 3 = .int (nI (p + 1))) (hK : ∀ L' : Nat → Value, L' 0 = .ref 25 → L' 1 = .int (nI (lBl t (e - lEnd t e p) (lEnd t e p) false)) → Ev Lx xs (d + 1) mM_findTokens 11 L' [] (aTk M k (p, lEnd t e p - p, lKind t e p)) Q) : Ev Lx xs (d + 1) mM_findTokens 64 L [.int (nI 1)] M Q := by
  have he := hT.2.1
  have htp := (hT.2.2 p hp).2
  have hle := lEnd_in t hp
  obtain ⟨f, hf⟩ : ∃ f, e - p = f + 1 := ⟨e - p - 1, by omega⟩
  have hne : ¬ t p = 34 := by intro h; rw [h] at hx; revert hx; decide
  have hE : lEnd t e p = lRun lDig t f (p + 1) := by
    unfold lEnd
    rw [if_neg hne, hf]
    rw [if_neg (by intro h; simp [lLet] at h; simp [lDig] at hx; omega), if_pos hx]
    rw [lRun, if_pos hx]
  have hK4 : lKind t e p = 1 := by unfold lKind; rw [if_neg hne]; rw [if_neg (by intro h; simp [lLet] at h; simp [lDig] at hx; omega), if_pos hx]
  refine ev_is dM_findTokens_64 rfl (Nat.le_of_ble_eq_true rfl) ?_
  refine ev_il dM_findTokens_66 rfl (by first | assumption | rfl) ?_
  refine ev_if0 (tgt := 77) dM_findTokens_68 (by decide) (fun h68 => ?_) (fun h68 => ?_)
  · exact absurd h68 (show ¬ nI 1 = nI 0 by decide)
  · try simp (disch := omega) only [zcond, nI_ltI, nI_leI, nI_eq, zb0, Classical.not_not, Bool.not_eq_false, Bool.not_eq_true, Nat.not_lt, Nat.not_le] at h68
    refine ev_il dM_findTokens_71 rfl (by first | assumption | rfl) ?_
    refine ev_const (v := nI 1) dM_findTokens_73 (by decide) ?_
    refine ev_icmp (tgt := 123) dM_findTokens_74 (by decide) (fun h74 => ?_) (fun h74 => ?_)
    · exact absurd (show nI 1 = nI 1 from rfl) h74
    · try simp (disch := omega) only [zcond, nI_ltI, nI_leI, nI_eq, zb0, Classical.not_not, Bool.not_eq_false, Bool.not_eq_true, Nat.not_lt, Nat.not_le] at h74
      refine r_fRun_d hP hT f (p + 1) _ (by omega) (by first | assumption | rfl) (by first | assumption | rfl) (by first | assumption | rfl) (by first | assumption | rfl) rfl ?_
      intro L' hL0' hL1' hL2' hL3' hL4'
      rw [hK4] at hK
      rw [← hE] at hL3'
      refine ev_il dM_findTokens_123 rfl (by first | assumption | rfl) ?_
      refine ev_const (v := nI 34) dM_findTokens_124 (by decide) ?_
      refine ev_icmp (tgt := 188) dM_findTokens_126 (by decide) (fun h126 => ?_) (fun h126 => ?_)
      · try simp (disch := omega) only [zcond, nI_ltI, nI_leI, nI_eq, zb0, Classical.not_not, Bool.not_eq_false, Bool.not_eq_true, Nat.not_lt, Nat.not_le] at h126
        exact r_f188 hP hT hk hk2 hp hle hL0' hL1' hL3' hL4' hK
      · first | omega | (simp (disch := omega) only [zcond, nI_eq, Classical.not_not] at h126; exact (hne h126).elim)
set_option maxRecDepth 100000 in
set_option maxHeartbeats 4000000 in
theorem r_f64_s {t : Nat → Nat} {e k p : Nat} (hP : M.2.1 = zP0 n b) (hT : TxM M t e) (hk : M.1 25 5 = nI k) (hk2 : k < 160) (hp : p < e) (hx : lSig (t p) = true) {Q : zQ} {L : Nat → Value} (hL0 : L 0 = .ref 25) (hL1 : L 1 = .int (nI p)) (hL2 : L 2 = .int (nI (t p))) (hL3 : L 3 = .int (nI (p + 1))) (hK : ∀ L' : Nat → Value, L' 0 = .ref 25 → L' 1 = .int (nI (lBl t (e - lEnd t e p) (lEnd t e p) false)) → Ev Lx xs (d + 1) mM_findTokens 11 L' [] (aTk M k (p, lEnd t e p - p, lKind t e p)) Q) : Ev Lx xs (d + 1) mM_findTokens 64 L [.int (nI 3)] M Q := by
  have he := hT.2.1
  have htp := (hT.2.2 p hp).2
  have hle := lEnd_in t hp
  have hne : ¬ t p = 34 := by intro h; rw [h] at hx; revert hx; decide
  have hl : lLet (t p) = false := by simp [lLet]; simp [lSig] at hx; omega
  have hd : lDig (t p) = false := by simp [lDig]; simp [lSig] at hx; omega
  have hE : lEnd t e p = p + 1 := by unfold lEnd; rw [if_neg hne, if_neg (by rw [hl]; decide), if_neg (by rw [hd]; decide)]
  have hK4 : lKind t e p = 3 := by unfold lKind; rw [if_neg hne, if_neg (by rw [hl]; decide), if_neg (by rw [hd]; decide), if_pos hx]
  rw [hE, hK4] at hK
  refine ev_is dM_findTokens_64 rfl (Nat.le_of_ble_eq_true rfl) ?_
  refine ev_il dM_findTokens_66 rfl (by first | assumption | rfl) ?_
  refine ev_if0 (tgt := 77) dM_findTokens_68 (by decide) (fun h68 => ?_) (fun h68 => ?_)
  · exact absurd h68 (show ¬ nI 3 = nI 0 by decide)
  · try simp (disch := omega) only [zcond, nI_ltI, nI_leI, nI_eq, zb0, Classical.not_not, Bool.not_eq_false, Bool.not_eq_true, Nat.not_lt, Nat.not_le] at h68
    refine ev_il dM_findTokens_71 rfl (by first | assumption | rfl) ?_
    refine ev_const (v := nI 1) dM_findTokens_73 (by decide) ?_
    refine ev_icmp (tgt := 123) dM_findTokens_74 (by decide) (fun h74 => ?_) (fun h74 => ?_)
    · try simp (disch := omega) only [zcond, nI_ltI, nI_leI, nI_eq, zb0, Classical.not_not, Bool.not_eq_false, Bool.not_eq_true, Nat.not_lt, Nat.not_le] at h74
      refine ev_il dM_findTokens_123 rfl (by first | assumption | rfl) ?_
      refine ev_const (v := nI 34) dM_findTokens_124 (by decide) ?_
      refine ev_icmp (tgt := 188) dM_findTokens_126 (by decide) (fun h126 => ?_) (fun h126 => ?_)
      · try simp (disch := omega) only [zcond, nI_ltI, nI_leI, nI_eq, zb0, Classical.not_not, Bool.not_eq_false, Bool.not_eq_true, Nat.not_lt, Nat.not_le] at h126
        exact r_f188 hP hT hk hk2 hp (by omega) (by first | assumption | rfl) (by first | assumption | rfl) (by first | assumption | rfl) rfl hK
      · first | omega | (simp (disch := omega) only [zcond, nI_eq, Classical.not_not] at h126; exact (hne h126).elim)
    · exact absurd (show ¬ nI 3 = nI 1 by decide) h74
set_option maxRecDepth 100000 in
set_option maxHeartbeats 4000000 in
theorem r_f64_b {t : Nat → Nat} {e k p : Nat} (hP : M.2.1 = zP0 n b) (hT : TxM M t e) (hk : M.1 25 5 = nI k) (hk2 : k < 160) (hp : p < e) (hl : lLet (t p) = false) (hd : lDig (t p) = false) (hs : lSig (t p) = false) {Q : zQ} {L : Nat → Value} (hL0 : L 0 = .ref 25) (hL1 : L 1 = .int (nI p)) (hL2 : L 2 = .int (nI (t p))) (hL3 : L 3 = .int (nI (p + 1))) (hK : ∀ L' : Nat → Value, L' 0 = .ref 25 → L' 1 = .int (nI (lBl t (e - lEnd t e p) (lEnd t e p) false)) → Ev Lx xs (d + 1) mM_findTokens 11 L' [] (aTk M k (p, lEnd t e p - p, lKind t e p)) Q) : Ev Lx xs (d + 1) mM_findTokens 64 L [.int (nI 4)] M Q := by
  have he := hT.2.1
  have htp := (hT.2.2 p hp).2
  have hle := lEnd_in t hp
  have hqi := lQuo_in t (e - (p + 1)) (p + 1)
  refine ev_is dM_findTokens_64 rfl (Nat.le_of_ble_eq_true rfl) ?_
  refine ev_il dM_findTokens_66 rfl (by first | assumption | rfl) ?_
  refine ev_if0 (tgt := 77) dM_findTokens_68 (by decide) (fun h68 => ?_) (fun h68 => ?_)
  · exact absurd h68 (show ¬ nI 4 = nI 0 by decide)
  · try simp (disch := omega) only [zcond, nI_ltI, nI_leI, nI_eq, zb0, Classical.not_not, Bool.not_eq_false, Bool.not_eq_true, Nat.not_lt, Nat.not_le] at h68
    refine ev_il dM_findTokens_71 rfl (by first | assumption | rfl) ?_
    refine ev_const (v := nI 1) dM_findTokens_73 (by decide) ?_
    refine ev_icmp (tgt := 123) dM_findTokens_74 (by decide) (fun h74 => ?_) (fun h74 => ?_)
    · try simp (disch := omega) only [zcond, nI_ltI, nI_leI, nI_eq, zb0, Classical.not_not, Bool.not_eq_false, Bool.not_eq_true, Nat.not_lt, Nat.not_le] at h74
      refine ev_il dM_findTokens_123 rfl (by first | assumption | rfl) ?_
      refine ev_const (v := nI 34) dM_findTokens_124 (by decide) ?_
      refine ev_icmp (tgt := 188) dM_findTokens_126 (by decide) (fun h126 => ?_) (fun h126 => ?_)
      · try simp (disch := omega) only [zcond, nI_ltI, nI_leI, nI_eq, zb0, Classical.not_not, Bool.not_eq_false, Bool.not_eq_true, Nat.not_lt, Nat.not_le] at h126
        rw [show lEnd t e p = p + 1 by (unfold lEnd; rw [if_neg h126, if_neg (by rw [hl]; decide), if_neg (by rw [hd]; decide)]), show lKind t e p = 4 by (unfold lKind; rw [if_neg h126, if_neg (by rw [hl]; decide), if_neg (by rw [hd]; decide), if_neg (by rw [hs]; decide)])] at hK
        exact r_f188 hP hT hk hk2 hp (by omega) (by first | assumption | rfl) (by first | assumption | rfl) (by first | assumption | rfl) rfl hK
      · try simp (disch := omega) only [zcond, nI_ltI, nI_leI, nI_eq, zb0, Classical.not_not, Bool.not_eq_false, Bool.not_eq_true, Nat.not_lt, Nat.not_le] at h126
        refine r_fQuo hP hT (e - (p + 1)) (p + 1) _ (by omega) (by first | assumption | rfl) (by first | assumption | rfl) (by first | assumption | rfl) ?_
        intro L' hL0' hL1' hL3'
        refine ev_il dM_findTokens_154 rfl (by first | assumption | rfl) ?_
        refine ev_al dM_findTokens_155 rfl (by first | assumption | rfl) ?_
        refine ev_geti dM_findTokens_156 fM_103 rfl ?_
        rw [hT.1]
        refine ev_icmp (tgt := 166) dM_findTokens_159 (by decide) (fun h159 => ?_) (fun h159 => ?_)
        · try simp (disch := omega) only [zcond, nI_ltI, nI_leI, nI_eq, zb0, Classical.not_not, Bool.not_eq_false, Bool.not_eq_true, Nat.not_lt, Nat.not_le] at h159
          refine ev_const (v := nI 4) dM_findTokens_166 (by decide) ?_
          refine ev_is dM_findTokens_167 rfl (Nat.le_of_ble_eq_true rfl) ?_
          refine ev_il dM_findTokens_169 rfl (by first | assumption | rfl) ?_
          refine ev_al dM_findTokens_170 rfl (by first | assumption | rfl) ?_
          refine ev_geti dM_findTokens_171 fM_103 rfl ?_
          rw [hT.1]
          refine ev_icmp (tgt := 183) dM_findTokens_174 (by decide) (fun h174 => ?_) (fun h174 => ?_)
          · try simp (disch := omega) only [zcond, nI_ltI, nI_leI, nI_eq, zb0, Classical.not_not, Bool.not_eq_false, Bool.not_eq_true, Nat.not_lt, Nat.not_le] at h174
            refine ev_al dM_findTokens_183 rfl (by first | assumption | rfl) ?_
            refine ev_geti dM_findTokens_184 fM_103 rfl ?_
            try rw [hT.1]
            refine ev_is dM_findTokens_187 rfl (Nat.le_of_ble_eq_true rfl) ?_
            first
            | (rw [show lEnd t e p = lQuo t (e - (p + 1)) (p + 1) + 1 by (unfold lEnd; rw [if_pos h126, if_pos h159]), show lKind t e p = 2 by (unfold lKind; rw [if_pos h126, if_pos h159])] at hK
               exact r_f188 hP hT hk hk2 hp (by omega) (by first | assumption | rfl) (by first | assumption | rfl) (by first | assumption | rfl) (by first | assumption | rfl) hK)
            | (rw [show lEnd t e p = e by (unfold lEnd; rw [if_pos h126, if_neg (by omega)]), show lKind t e p = 4 by (unfold lKind; rw [if_pos h126, if_neg (by omega)])] at hK
               exact r_f188 hP hT hk hk2 hp (by omega) (by first | assumption | rfl) (by first | assumption | rfl) (by first | assumption | rfl) (by first | assumption | rfl) hK)
            | omega
          · try simp (disch := omega) only [zcond, nI_ltI, nI_leI, nI_eq, zb0, Classical.not_not, Bool.not_eq_false, Bool.not_eq_true, Nat.not_lt, Nat.not_le] at h174
            refine ev_il dM_findTokens_177 rfl (by first | assumption | rfl) ?_
            refine ev_const (v := nI 1) dM_findTokens_178 (by decide) ?_
            first | with_reducible refine ev_addN dM_findTokens_179 ?_ | refine ev_add dM_findTokens_179 ?_
            refine ev_goto (tgt := 187) dM_findTokens_180 (by decide) ?_
            try rw [hT.1]
            refine ev_is dM_findTokens_187 rfl (Nat.le_of_ble_eq_true rfl) ?_
            first
            | (rw [show lEnd t e p = lQuo t (e - (p + 1)) (p + 1) + 1 by (unfold lEnd; rw [if_pos h126, if_pos h159]), show lKind t e p = 2 by (unfold lKind; rw [if_pos h126, if_pos h159])] at hK
               exact r_f188 hP hT hk hk2 hp (by omega) (by first | assumption | rfl) (by first | assumption | rfl) (by first | assumption | rfl) (by first | assumption | rfl) hK)
            | (rw [show lEnd t e p = e by (unfold lEnd; rw [if_pos h126, if_neg (by omega)]), show lKind t e p = 4 by (unfold lKind; rw [if_pos h126, if_neg (by omega)])] at hK
               exact r_f188 hP hT hk hk2 hp (by omega) (by first | assumption | rfl) (by first | assumption | rfl) (by first | assumption | rfl) (by first | assumption | rfl) hK)
            | omega
        · try simp (disch := omega) only [zcond, nI_ltI, nI_leI, nI_eq, zb0, Classical.not_not, Bool.not_eq_false, Bool.not_eq_true, Nat.not_lt, Nat.not_le] at h159
          refine ev_const (v := nI 2) dM_findTokens_162 (by decide) ?_
          refine ev_goto (tgt := 167) dM_findTokens_163 (by decide) ?_
          refine ev_is dM_findTokens_167 rfl (Nat.le_of_ble_eq_true rfl) ?_
          refine ev_il dM_findTokens_169 rfl (by first | assumption | rfl) ?_
          refine ev_al dM_findTokens_170 rfl (by first | assumption | rfl) ?_
          refine ev_geti dM_findTokens_171 fM_103 rfl ?_
          rw [hT.1]
          refine ev_icmp (tgt := 183) dM_findTokens_174 (by decide) (fun h174 => ?_) (fun h174 => ?_)
          · try simp (disch := omega) only [zcond, nI_ltI, nI_leI, nI_eq, zb0, Classical.not_not, Bool.not_eq_false, Bool.not_eq_true, Nat.not_lt, Nat.not_le] at h174
            refine ev_al dM_findTokens_183 rfl (by first | assumption | rfl) ?_
            refine ev_geti dM_findTokens_184 fM_103 rfl ?_
            try rw [hT.1]
            refine ev_is dM_findTokens_187 rfl (Nat.le_of_ble_eq_true rfl) ?_
            first
            | (rw [show lEnd t e p = lQuo t (e - (p + 1)) (p + 1) + 1 by (unfold lEnd; rw [if_pos h126, if_pos h159]), show lKind t e p = 2 by (unfold lKind; rw [if_pos h126, if_pos h159])] at hK
               exact r_f188 hP hT hk hk2 hp (by omega) (by first | assumption | rfl) (by first | assumption | rfl) (by first | assumption | rfl) (by first | assumption | rfl) hK)
            | (rw [show lEnd t e p = e by (unfold lEnd; rw [if_pos h126, if_neg (by omega)]), show lKind t e p = 4 by (unfold lKind; rw [if_pos h126, if_neg (by omega)])] at hK
               exact r_f188 hP hT hk hk2 hp (by omega) (by first | assumption | rfl) (by first | assumption | rfl) (by first | assumption | rfl) (by first | assumption | rfl) hK)
            | omega
          · try simp (disch := omega) only [zcond, nI_ltI, nI_leI, nI_eq, zb0, Classical.not_not, Bool.not_eq_false, Bool.not_eq_true, Nat.not_lt, Nat.not_le] at h174
            refine ev_il dM_findTokens_177 rfl (by first | assumption | rfl) ?_
            refine ev_const (v := nI 1) dM_findTokens_178 (by decide) ?_
            first | with_reducible refine ev_addN dM_findTokens_179 ?_ | refine ev_add dM_findTokens_179 ?_
            refine ev_goto (tgt := 187) dM_findTokens_180 (by decide) ?_
            try rw [hT.1]
            refine ev_is dM_findTokens_187 rfl (Nat.le_of_ble_eq_true rfl) ?_
            first
            | (rw [show lEnd t e p = lQuo t (e - (p + 1)) (p + 1) + 1 by (unfold lEnd; rw [if_pos h126, if_pos h159]), show lKind t e p = 2 by (unfold lKind; rw [if_pos h126, if_pos h159])] at hK
               exact r_f188 hP hT hk hk2 hp (by omega) (by first | assumption | rfl) (by first | assumption | rfl) (by first | assumption | rfl) (by first | assumption | rfl) hK)
            | (rw [show lEnd t e p = e by (unfold lEnd; rw [if_pos h126, if_neg (by omega)]), show lKind t e p = 4 by (unfold lKind; rw [if_pos h126, if_neg (by omega)])] at hK
               exact r_f188 hP hT hk hk2 hp (by omega) (by first | assumption | rfl) (by first | assumption | rfl) (by first | assumption | rfl) (by first | assumption | rfl) hK)
            | omega
    · exact absurd (show ¬ nI 4 = nI 1 by decide) h74
def sFM : Nat → Nat → Prop := fun o i => o = 28 ∨ o = 29 ∨ o = 30 ∨ (o = 25 ∧ i = 5)
set_option maxRecDepth 100000 in
set_option maxHeartbeats 4000000 in
theorem r_findL {t : Nat → Nat} {e : Nat} {R : Option Int32 → zM → Prop} : ∀ (f p : Nat) (ts0 : List (Nat × Nat × Nat)) (M : zM) (L : Nat → Value), M.2.1 = zP0 n b → TxM M t e → L 0 = .ref 25 → L 1 = .int (nI p) → p ≤ e → e - p < f → ts0.length ≤ p → TkM M ts0 → (∀ M', zSame sFM M M' → TkM M' (ts0 ++ lTok t e f p) → R none M') → Ev Lx xs (d + 1) mM_findTokens 11 L [] M (zpost mM_findTokens R) := by
  intro f
  induction f with
  | zero => intro p ts0 M L hP hT hL0 hL1 hpe hf; omega
  | succ f ih =>
    intro p ts0 M L hP hT hL0 hL1 hpe0 hf hlen hTk hR
    have he := hT.2.1
    have hk := hTk.1
    generalize hkk : ts0.length = k at hk hlen
    have hk2 : k < 160 ∨ e ≤ p := by omega
    rcases hk2 with hk2 | hk2
    rotate_left
    · refine ev_il dM_findTokens_11 rfl (by first | assumption | rfl) ?_
      refine ev_al dM_findTokens_12 rfl (by first | assumption | rfl) ?_
      refine ev_geti dM_findTokens_13 fM_103 rfl ?_
      rw [hT.1]
      refine ev_icmp (tgt := 205) dM_findTokens_16 (by decide) (fun h16 => ?_) (fun h16 => ?_)
      · refine ev_vret dM_findTokens_205 rfl ?_
        refine hR M (zSame.rf _ _) ?_
        rw [lTok, if_neg (by omega), List.append_nil]
        exact hTk
      · first | omega | (simp (disch := omega) only [zcond, nI_ltI, nI_leI, nI_eq] at h16; omega)
    refine ev_il dM_findTokens_11 rfl (by first | assumption | rfl) ?_
    refine ev_al dM_findTokens_12 rfl (by first | assumption | rfl) ?_
    refine ev_geti dM_findTokens_13 fM_103 rfl ?_
    rw [hT.1]
    refine ev_icmp (tgt := 205) dM_findTokens_16 (by decide) (fun h16 => ?_) (fun h16 => ?_)
    · try simp (disch := omega) only [zcond, nI_ltI, nI_leI, nI_eq, zb0, Classical.not_not, Bool.not_eq_false, Bool.not_eq_true, Nat.not_lt, Nat.not_le] at h16
      refine ev_vret dM_findTokens_205 rfl ?_
      refine hR M (zSame.rf _ _) ?_
      rw [lTok, if_neg (by omega), List.append_nil]
      exact hTk
    · try simp (disch := omega) only [zcond, nI_ltI, nI_leI, nI_eq, zb0, Classical.not_not, Bool.not_eq_false, Bool.not_eq_true, Nat.not_lt, Nat.not_le] at h16
      refine ev_al dM_findTokens_19 rfl (by first | assumption | rfl) ?_
      refine ev_getrP dM_findTokens_20 fM_7 rfl (zq (q := 26) hP rfl) ?_
      refine ev_il dM_findTokens_23 rfl (by first | assumption | rfl) ?_
      refine ev_aldN dM_findTokens_24 rfl rfl (by omega) ?_
      have hp : p < e := h16
      have htp := (hT.2.2 p hp).2
      rw [(hT.2.2 p hp).1]
      refine ev_is dM_findTokens_25 rfl (Nat.le_of_ble_eq_true rfl) ?_
      refine ev_il dM_findTokens_26 rfl (by first | assumption | rfl) ?_
      refine ev_const (v := nI 1) dM_findTokens_27 (by decide) ?_
      first | with_reducible refine ev_addN dM_findTokens_28 ?_ | refine ev_add dM_findTokens_28 ?_
      refine ev_is dM_findTokens_29 rfl (Nat.le_of_ble_eq_true rfl) ?_
      refine ev_il dM_findTokens_30 rfl (by first | assumption | rfl) ?_
      refine ev_pS dM_findTokens_31 (r_isLetter (by omega)) lM_113 rfl (Nat.le_of_ble_eq_true rfl) rfl (Nat.le_of_ble_eq_true rfl) ?_
      refine ev_if0 (tgt := 41) dM_findTokens_34 (by decide) (fun h34 => ?_) (fun h34 => ?_)
      · try simp (disch := omega) only [zcond, nI_ltI, nI_leI, nI_eq, zb0, Classical.not_not, Bool.not_eq_false, Bool.not_eq_true, Nat.not_lt, Nat.not_le] at h34
        refine ev_il dM_findTokens_41 rfl (by first | assumption | rfl) ?_
        refine ev_pS dM_findTokens_42 (r_isDigit (by omega)) lM_117 rfl (Nat.le_of_ble_eq_true rfl) rfl (Nat.le_of_ble_eq_true rfl) ?_
        refine ev_if0 (tgt := 52) dM_findTokens_45 (by decide) (fun h45 => ?_) (fun h45 => ?_)
        · try simp (disch := omega) only [zcond, nI_ltI, nI_leI, nI_eq, zb0, Classical.not_not, Bool.not_eq_false, Bool.not_eq_true, Nat.not_lt, Nat.not_le] at h45
          refine ev_il dM_findTokens_52 rfl (by first | assumption | rfl) ?_
          refine ev_pS dM_findTokens_53 (r_isSign (by omega)) lM_120 rfl (Nat.le_of_ble_eq_true rfl) rfl (Nat.le_of_ble_eq_true rfl) ?_
          refine ev_if0 (tgt := 63) dM_findTokens_56 (by decide) (fun h56 => ?_) (fun h56 => ?_)
          · try simp (disch := omega) only [zcond, nI_ltI, nI_leI, nI_eq, zb0, Classical.not_not, Bool.not_eq_false, Bool.not_eq_true, Nat.not_lt, Nat.not_le] at h56
            refine ev_const (v := nI 4) dM_findTokens_63 (by decide) ?_
            have hTk3 : TkM (aTk M k (p, lEnd t e p - p, lKind t e p)) (ts0 ++ [(p, lEnd t e p - p, lKind t e p)]) := by
              refine ⟨?_, fun j q hj => ?_⟩
              · unfold aTk; rw [zI_s, List.length_append, hkk]; rfl
              · rw [List.getElem?_append] at hj
                split at hj
                · rename_i hlt
                  obtain ⟨h1, h2, h3⟩ := hTk.2 j q hj
                  exact ⟨(zI_o (by omega)).trans ((zI_o (by omega)).trans ((zI_o (by omega)).trans ((zI_k (by omega)).trans h1))), (zI_o (by omega)).trans ((zI_o (by omega)).trans ((zI_k (by omega)).trans ((zI_o (by omega)).trans h2))), (zI_o (by omega)).trans ((zI_k (by omega)).trans ((zI_o (by omega)).trans ((zI_o (by omega)).trans h3)))⟩
                · rename_i hge
                  obtain rfl : j = k := by
                    have := (List.getElem?_eq_some_iff.mp hj).1
                    simp at this; omega
                  rw [hkk, Nat.sub_self] at hj
                  cases hj
                  exact ⟨(zI_o (by omega)).trans ((zI_o (by omega)).trans ((zI_o (by omega)).trans (zI_s _ _ _ _))), (zI_o (by omega)).trans ((zI_o (by omega)).trans (zI_s _ _ _ _)), (zI_o (by omega)).trans (zI_s _ _ _ _)⟩
            have hR3 : ∀ M', zSame sFM (aTk M k (p, lEnd t e p - p, lKind t e p)) M' → TkM M' ((ts0 ++ [(p, lEnd t e p - p, lKind t e p)]) ++ lTok t e f (lBl t (e - lEnd t e p) (lEnd t e p) false)) → R none M' := by
              intro M' hs hk'
              refine hR M' (((((zSame.rf sFM M).I (Or.inl rfl)).I (Or.inr (Or.inl rfl))).I (Or.inr (Or.inr (Or.inl rfl)))).I (Or.inr (Or.inr (Or.inr ⟨rfl, rfl⟩))) |>.tr hs) ?_
              rw [lTok, if_pos hp]
              rw [List.append_assoc] at hk'
              exact hk'
            have hbl := lBl_in t (e - lEnd t e p) (lEnd t e p) false
            have hle := lEnd_in t hp
            first
            | exact r_f64_l hP hT hk hk2 hp h34 (by first | assumption | rfl) (by first | assumption | rfl) (by first | assumption | rfl) rfl (fun L' hL0' hL1' => ih _ (ts0 ++ [(p, lEnd t e p - p, lKind t e p)]) _ L' hP hT.a hL0' hL1' (by omega) (by omega) (by rw [List.length_append]; show ts0.length + 1 ≤ _; omega) hTk3 hR3)
            | exact r_f64_d hP hT hk hk2 hp h45 (by first | assumption | rfl) (by first | assumption | rfl) (by first | assumption | rfl) rfl (fun L' hL0' hL1' => ih _ (ts0 ++ [(p, lEnd t e p - p, lKind t e p)]) _ L' hP hT.a hL0' hL1' (by omega) (by omega) (by rw [List.length_append]; show ts0.length + 1 ≤ _; omega) hTk3 hR3)
            | exact r_f64_s hP hT hk hk2 hp h56 (by first | assumption | rfl) (by first | assumption | rfl) (by first | assumption | rfl) rfl (fun L' hL0' hL1' => ih _ (ts0 ++ [(p, lEnd t e p - p, lKind t e p)]) _ L' hP hT.a hL0' hL1' (by omega) (by omega) (by rw [List.length_append]; show ts0.length + 1 ≤ _; omega) hTk3 hR3)
            | exact r_f64_b hP hT hk hk2 hp h34 h45 h56 (by first | assumption | rfl) (by first | assumption | rfl) (by first | assumption | rfl) rfl (fun L' hL0' hL1' => ih _ (ts0 ++ [(p, lEnd t e p - p, lKind t e p)]) _ L' hP hT.a hL0' hL1' (by omega) (by omega) (by rw [List.length_append]; show ts0.length + 1 ≤ _; omega) hTk3 hR3)
          · try simp (disch := omega) only [zcond, nI_ltI, nI_leI, nI_eq, zb0, Classical.not_not, Bool.not_eq_false, Bool.not_eq_true, Nat.not_lt, Nat.not_le] at h56
            refine ev_const (v := nI 3) dM_findTokens_59 (by decide) ?_
            refine ev_goto (tgt := 64) dM_findTokens_60 (by decide) ?_
            have hTk3 : TkM (aTk M k (p, lEnd t e p - p, lKind t e p)) (ts0 ++ [(p, lEnd t e p - p, lKind t e p)]) := by
              refine ⟨?_, fun j q hj => ?_⟩
              · unfold aTk; rw [zI_s, List.length_append, hkk]; rfl
              · rw [List.getElem?_append] at hj
                split at hj
                · rename_i hlt
                  obtain ⟨h1, h2, h3⟩ := hTk.2 j q hj
                  exact ⟨(zI_o (by omega)).trans ((zI_o (by omega)).trans ((zI_o (by omega)).trans ((zI_k (by omega)).trans h1))), (zI_o (by omega)).trans ((zI_o (by omega)).trans ((zI_k (by omega)).trans ((zI_o (by omega)).trans h2))), (zI_o (by omega)).trans ((zI_k (by omega)).trans ((zI_o (by omega)).trans ((zI_o (by omega)).trans h3)))⟩
                · rename_i hge
                  obtain rfl : j = k := by
                    have := (List.getElem?_eq_some_iff.mp hj).1
                    simp at this; omega
                  rw [hkk, Nat.sub_self] at hj
                  cases hj
                  exact ⟨(zI_o (by omega)).trans ((zI_o (by omega)).trans ((zI_o (by omega)).trans (zI_s _ _ _ _))), (zI_o (by omega)).trans ((zI_o (by omega)).trans (zI_s _ _ _ _)), (zI_o (by omega)).trans (zI_s _ _ _ _)⟩
            have hR3 : ∀ M', zSame sFM (aTk M k (p, lEnd t e p - p, lKind t e p)) M' → TkM M' ((ts0 ++ [(p, lEnd t e p - p, lKind t e p)]) ++ lTok t e f (lBl t (e - lEnd t e p) (lEnd t e p) false)) → R none M' := by
              intro M' hs hk'
              refine hR M' (((((zSame.rf sFM M).I (Or.inl rfl)).I (Or.inr (Or.inl rfl))).I (Or.inr (Or.inr (Or.inl rfl)))).I (Or.inr (Or.inr (Or.inr ⟨rfl, rfl⟩))) |>.tr hs) ?_
              rw [lTok, if_pos hp]
              rw [List.append_assoc] at hk'
              exact hk'
            have hbl := lBl_in t (e - lEnd t e p) (lEnd t e p) false
            have hle := lEnd_in t hp
            first
            | exact r_f64_l hP hT hk hk2 hp h34 (by first | assumption | rfl) (by first | assumption | rfl) (by first | assumption | rfl) rfl (fun L' hL0' hL1' => ih _ (ts0 ++ [(p, lEnd t e p - p, lKind t e p)]) _ L' hP hT.a hL0' hL1' (by omega) (by omega) (by rw [List.length_append]; show ts0.length + 1 ≤ _; omega) hTk3 hR3)
            | exact r_f64_d hP hT hk hk2 hp h45 (by first | assumption | rfl) (by first | assumption | rfl) (by first | assumption | rfl) rfl (fun L' hL0' hL1' => ih _ (ts0 ++ [(p, lEnd t e p - p, lKind t e p)]) _ L' hP hT.a hL0' hL1' (by omega) (by omega) (by rw [List.length_append]; show ts0.length + 1 ≤ _; omega) hTk3 hR3)
            | exact r_f64_s hP hT hk hk2 hp h56 (by first | assumption | rfl) (by first | assumption | rfl) (by first | assumption | rfl) rfl (fun L' hL0' hL1' => ih _ (ts0 ++ [(p, lEnd t e p - p, lKind t e p)]) _ L' hP hT.a hL0' hL1' (by omega) (by omega) (by rw [List.length_append]; show ts0.length + 1 ≤ _; omega) hTk3 hR3)
            | exact r_f64_b hP hT hk hk2 hp h34 h45 h56 (by first | assumption | rfl) (by first | assumption | rfl) (by first | assumption | rfl) rfl (fun L' hL0' hL1' => ih _ (ts0 ++ [(p, lEnd t e p - p, lKind t e p)]) _ L' hP hT.a hL0' hL1' (by omega) (by omega) (by rw [List.length_append]; show ts0.length + 1 ≤ _; omega) hTk3 hR3)
        · try simp (disch := omega) only [zcond, nI_ltI, nI_leI, nI_eq, zb0, Classical.not_not, Bool.not_eq_false, Bool.not_eq_true, Nat.not_lt, Nat.not_le] at h45
          refine ev_const (v := nI 1) dM_findTokens_48 (by decide) ?_
          refine ev_goto (tgt := 64) dM_findTokens_49 (by decide) ?_
          have hTk3 : TkM (aTk M k (p, lEnd t e p - p, lKind t e p)) (ts0 ++ [(p, lEnd t e p - p, lKind t e p)]) := by
            refine ⟨?_, fun j q hj => ?_⟩
            · unfold aTk; rw [zI_s, List.length_append, hkk]; rfl
            · rw [List.getElem?_append] at hj
              split at hj
              · rename_i hlt
                obtain ⟨h1, h2, h3⟩ := hTk.2 j q hj
                exact ⟨(zI_o (by omega)).trans ((zI_o (by omega)).trans ((zI_o (by omega)).trans ((zI_k (by omega)).trans h1))), (zI_o (by omega)).trans ((zI_o (by omega)).trans ((zI_k (by omega)).trans ((zI_o (by omega)).trans h2))), (zI_o (by omega)).trans ((zI_k (by omega)).trans ((zI_o (by omega)).trans ((zI_o (by omega)).trans h3)))⟩
              · rename_i hge
                obtain rfl : j = k := by
                  have := (List.getElem?_eq_some_iff.mp hj).1
                  simp at this; omega
                rw [hkk, Nat.sub_self] at hj
                cases hj
                exact ⟨(zI_o (by omega)).trans ((zI_o (by omega)).trans ((zI_o (by omega)).trans (zI_s _ _ _ _))), (zI_o (by omega)).trans ((zI_o (by omega)).trans (zI_s _ _ _ _)), (zI_o (by omega)).trans (zI_s _ _ _ _)⟩
          have hR3 : ∀ M', zSame sFM (aTk M k (p, lEnd t e p - p, lKind t e p)) M' → TkM M' ((ts0 ++ [(p, lEnd t e p - p, lKind t e p)]) ++ lTok t e f (lBl t (e - lEnd t e p) (lEnd t e p) false)) → R none M' := by
            intro M' hs hk'
            refine hR M' (((((zSame.rf sFM M).I (Or.inl rfl)).I (Or.inr (Or.inl rfl))).I (Or.inr (Or.inr (Or.inl rfl)))).I (Or.inr (Or.inr (Or.inr ⟨rfl, rfl⟩))) |>.tr hs) ?_
            rw [lTok, if_pos hp]
            rw [List.append_assoc] at hk'
            exact hk'
          have hbl := lBl_in t (e - lEnd t e p) (lEnd t e p) false
          have hle := lEnd_in t hp
          first
          | exact r_f64_l hP hT hk hk2 hp h34 (by first | assumption | rfl) (by first | assumption | rfl) (by first | assumption | rfl) rfl (fun L' hL0' hL1' => ih _ (ts0 ++ [(p, lEnd t e p - p, lKind t e p)]) _ L' hP hT.a hL0' hL1' (by omega) (by omega) (by rw [List.length_append]; show ts0.length + 1 ≤ _; omega) hTk3 hR3)
          | exact r_f64_d hP hT hk hk2 hp h45 (by first | assumption | rfl) (by first | assumption | rfl) (by first | assumption | rfl) rfl (fun L' hL0' hL1' => ih _ (ts0 ++ [(p, lEnd t e p - p, lKind t e p)]) _ L' hP hT.a hL0' hL1' (by omega) (by omega) (by rw [List.length_append]; show ts0.length + 1 ≤ _; omega) hTk3 hR3)
          | exact r_f64_s hP hT hk hk2 hp h56 (by first | assumption | rfl) (by first | assumption | rfl) (by first | assumption | rfl) rfl (fun L' hL0' hL1' => ih _ (ts0 ++ [(p, lEnd t e p - p, lKind t e p)]) _ L' hP hT.a hL0' hL1' (by omega) (by omega) (by rw [List.length_append]; show ts0.length + 1 ≤ _; omega) hTk3 hR3)
          | exact r_f64_b hP hT hk hk2 hp h34 h45 h56 (by first | assumption | rfl) (by first | assumption | rfl) (by first | assumption | rfl) rfl (fun L' hL0' hL1' => ih _ (ts0 ++ [(p, lEnd t e p - p, lKind t e p)]) _ L' hP hT.a hL0' hL1' (by omega) (by omega) (by rw [List.length_append]; show ts0.length + 1 ≤ _; omega) hTk3 hR3)
      · try simp (disch := omega) only [zcond, nI_ltI, nI_leI, nI_eq, zb0, Classical.not_not, Bool.not_eq_false, Bool.not_eq_true, Nat.not_lt, Nat.not_le] at h34
        refine ev_const (v := nI 0) dM_findTokens_37 (by decide) ?_
        refine ev_goto (tgt := 64) dM_findTokens_38 (by decide) ?_
        have hTk3 : TkM (aTk M k (p, lEnd t e p - p, lKind t e p)) (ts0 ++ [(p, lEnd t e p - p, lKind t e p)]) := by
          refine ⟨?_, fun j q hj => ?_⟩
          · unfold aTk; rw [zI_s, List.length_append, hkk]; rfl
          · rw [List.getElem?_append] at hj
            split at hj
            · rename_i hlt
              obtain ⟨h1, h2, h3⟩ := hTk.2 j q hj
              exact ⟨(zI_o (by omega)).trans ((zI_o (by omega)).trans ((zI_o (by omega)).trans ((zI_k (by omega)).trans h1))), (zI_o (by omega)).trans ((zI_o (by omega)).trans ((zI_k (by omega)).trans ((zI_o (by omega)).trans h2))), (zI_o (by omega)).trans ((zI_k (by omega)).trans ((zI_o (by omega)).trans ((zI_o (by omega)).trans h3)))⟩
            · rename_i hge
              obtain rfl : j = k := by
                have := (List.getElem?_eq_some_iff.mp hj).1
                simp at this; omega
              rw [hkk, Nat.sub_self] at hj
              cases hj
              exact ⟨(zI_o (by omega)).trans ((zI_o (by omega)).trans ((zI_o (by omega)).trans (zI_s _ _ _ _))), (zI_o (by omega)).trans ((zI_o (by omega)).trans (zI_s _ _ _ _)), (zI_o (by omega)).trans (zI_s _ _ _ _)⟩
        have hR3 : ∀ M', zSame sFM (aTk M k (p, lEnd t e p - p, lKind t e p)) M' → TkM M' ((ts0 ++ [(p, lEnd t e p - p, lKind t e p)]) ++ lTok t e f (lBl t (e - lEnd t e p) (lEnd t e p) false)) → R none M' := by
          intro M' hs hk'
          refine hR M' (((((zSame.rf sFM M).I (Or.inl rfl)).I (Or.inr (Or.inl rfl))).I (Or.inr (Or.inr (Or.inl rfl)))).I (Or.inr (Or.inr (Or.inr ⟨rfl, rfl⟩))) |>.tr hs) ?_
          rw [lTok, if_pos hp]
          rw [List.append_assoc] at hk'
          exact hk'
        have hbl := lBl_in t (e - lEnd t e p) (lEnd t e p) false
        have hle := lEnd_in t hp
        first
        | exact r_f64_l hP hT hk hk2 hp h34 (by first | assumption | rfl) (by first | assumption | rfl) (by first | assumption | rfl) rfl (fun L' hL0' hL1' => ih _ (ts0 ++ [(p, lEnd t e p - p, lKind t e p)]) _ L' hP hT.a hL0' hL1' (by omega) (by omega) (by rw [List.length_append]; show ts0.length + 1 ≤ _; omega) hTk3 hR3)
        | exact r_f64_d hP hT hk hk2 hp h45 (by first | assumption | rfl) (by first | assumption | rfl) (by first | assumption | rfl) rfl (fun L' hL0' hL1' => ih _ (ts0 ++ [(p, lEnd t e p - p, lKind t e p)]) _ L' hP hT.a hL0' hL1' (by omega) (by omega) (by rw [List.length_append]; show ts0.length + 1 ≤ _; omega) hTk3 hR3)
        | exact r_f64_s hP hT hk hk2 hp h56 (by first | assumption | rfl) (by first | assumption | rfl) (by first | assumption | rfl) rfl (fun L' hL0' hL1' => ih _ (ts0 ++ [(p, lEnd t e p - p, lKind t e p)]) _ L' hP hT.a hL0' hL1' (by omega) (by omega) (by rw [List.length_append]; show ts0.length + 1 ≤ _; omega) hTk3 hR3)
        | exact r_f64_b hP hT hk hk2 hp h34 h45 h56 (by first | assumption | rfl) (by first | assumption | rfl) (by first | assumption | rfl) rfl (fun L' hL0' hL1' => ih _ (ts0 ++ [(p, lEnd t e p - p, lKind t e p)]) _ L' hP hT.a hL0' hL1' (by omega) (by omega) (by rw [List.length_append]; show ts0.length + 1 ≤ _; omega) hTk3 hR3)
set_option maxRecDepth 100000 in
set_option maxHeartbeats 4000000 in
theorem r_findTokens {t : Nat → Nat} {e : Nat} (hP : M.2.1 = zP0 n b) (hT : TxM M t e) : Ct Lx xs (d + 1) mM_findTokens [.ref 25] M (fun q M' => q = none ∧ zSame sFM M M' ∧ TkM M' (lAll t e)) := by
  unfold Ct
  have he := hT.2.1
  have hT0 : TxM (zI M 25 5 (nI 0)) t e := ⟨(zI_k (by omega)).trans hT.1, hT.2.1, fun i hi => ⟨(zI_o (by omega)).trans (hT.2.2 i hi).1, (hT.2.2 i hi).2⟩⟩
  have hb0 := lBl_in t (e - 0) 0 false
  refine ev_al dM_findTokens_0 rfl (by first | assumption | rfl) ?_
  refine ev_const (v := nI 0) dM_findTokens_1 (by decide) ?_
  refine ev_puti dM_findTokens_2 fM_106 fwM_tokens rfl (vp_nar_int _) rfl ?_
  refine ev_al dM_findTokens_5 rfl (by first | assumption | rfl) ?_
  refine ev_const (v := nI 0) dM_findTokens_6 (by decide) ?_
  refine ev_pV dM_findTokens_7 (r_skip (M := zI M 25 5 (nI 0)) (p := 0) hP hT0 (by omega)) lM_109 rec_M rfl (Nat.le_of_ble_eq_true rfl) rfl (Nat.le_of_ble_eq_true rfl) ?_
  refine ev_is dM_findTokens_10 rfl (Nat.le_of_ble_eq_true rfl) ?_
  refine r_findL 161 (lBl t (e - 0) 0 false) [] _ _ hP hT0 rfl rfl (by omega) (by omega) (Nat.zero_le _) ⟨zI_s _ _ _ _, fun k q h => by simp at h⟩ ?_
  intro M' hs hk
  exact ⟨rfl, ((zSame.rf sFM M).I (Or.inr (Or.inr (Or.inr ⟨rfl, rfl⟩)))).tr hs, hk⟩
end
