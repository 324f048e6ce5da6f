/- KeptItems: the calls that only ask, type and wipe (rows laid by program) -/
section
variable {Lx : Nat} {xs : Nat → Int32} {d : Nat} {M : zM} {n b : Nat}
set_option maxRecDepth 100000 in
set_option maxHeartbeats 4000000 in
theorem k_length (hP : M.2.1 = zP0 n b) (hn : zR n) : Pu Lx xs d mK_length [.ref 0] M (M.1 (n + 1) 1) := by
  unfold Pu Ct
  refine ev_al dK_length_0 rfl (by first | assumption | rfl) ?_
  refine ev_getrP dK_length_1 fK_16 rfl (zq (q := n) hP rfl) ?_
  refine ev_getrP dK_length_4 fK_31 (sh_R hn) (zq hP (pt_source hn)) ?_
  refine ev_geti dK_length_7 fK_35 (sh_S hn) ?_
  refine ev_ret dK_length_10 rfl rfl ?_
  exact ⟨rfl, rfl⟩
set_option maxRecDepth 100000 in
set_option maxHeartbeats 4000000 in
theorem k_tokens (hP : M.2.1 = zP0 n b) (hn : zR n) : Pu Lx xs d mK_tokens [.ref 0] M (M.1 (n + 1) 4) := by
  unfold Pu Ct
  refine ev_al dK_tokens_0 rfl (by first | assumption | rfl) ?_
  refine ev_getrP dK_tokens_1 fK_16 rfl (zq (q := n) hP rfl) ?_
  refine ev_getrP dK_tokens_4 fK_31 (sh_R hn) (zq hP (pt_source hn)) ?_
  refine ev_geti dK_tokens_7 fK_63 (sh_S hn) ?_
  refine ev_ret dK_tokens_10 rfl rfl ?_
  exact ⟨rfl, rfl⟩
set_option maxRecDepth 100000 in
set_option maxHeartbeats 4000000 in
theorem k_items (hP : M.2.1 = zP0 n b) (hn : zR n) : Pu Lx xs d mK_items [.ref 0] M (M.1 (n + 2) 5) := by
  unfold Pu Ct
  refine ev_al dK_items_0 rfl (by first | assumption | rfl) ?_
  refine ev_getrP dK_items_1 fK_16 rfl (zq (q := n) hP rfl) ?_
  refine ev_getrP dK_items_4 fK_76 (sh_R hn) (zq hP (pt_tree hn)) ?_
  refine ev_geti dK_items_7 fK_80 (sh_T hn) ?_
  refine ev_ret dK_items_10 rfl rfl ?_
  exact ⟨rfl, rfl⟩
set_option maxRecDepth 100000 in
set_option maxHeartbeats 4000000 in
theorem k_kept (hP : M.2.1 = zP0 n b) (hn : zR n) : Pu Lx xs d mK_kept [.ref 0] M (M.1 0 5) := by
  unfold Pu Ct
  refine ev_al dK_kept_0 rfl (by first | assumption | rfl) ?_
  refine ev_geti dK_kept_1 fK_83 rfl ?_
  refine ev_ret dK_kept_4 rfl rfl ?_
  exact ⟨rfl, rfl⟩
set_option maxRecDepth 100000 in
set_option maxHeartbeats 4000000 in
theorem k_wipe (hP : M.2.1 = zP0 n b) (hn : zR n) : Ct Lx xs d mK_wipe [.ref 0] M (fun q M' => q = some (M.1 0 1) ∧ M' = zI M 0 1 (nI 0)) := by
  unfold Ct
  refine ev_al dK_wipe_0 rfl (by first | assumption | rfl) ?_
  refine ev_geti dK_wipe_1 fK_27 rfl ?_
  refine ev_is dK_wipe_4 rfl (Nat.le_of_ble_eq_true rfl) ?_
  refine ev_al dK_wipe_5 rfl (by first | assumption | rfl) ?_
  refine ev_const (v := nI 0) dK_wipe_6 (by decide) ?_
  refine ev_puti dK_wipe_7 fK_27 fwK_rowSize rfl (vp_nar_int _) rfl ?_
  refine ev_il dK_wipe_10 rfl (by first | assumption | rfl) ?_
  refine ev_ret dK_wipe_11 rfl rfl ?_
  exact ⟨rfl, rfl⟩
def tyOk (c : Nat) : Bool := decide (c = 10 ∨ (32 ≤ c ∧ c ≤ 126))
set_option maxRecDepth 100000 in
set_option maxHeartbeats 4000000 in
theorem k_type {c w : Nat} (hP : M.2.1 = zP0 n b) (hn : zR n) (hc : c < 65536) (hw : M.1 0 1 = nI w) (hw2 : w ≤ 40) : Ct Lx xs d mK_type [.ref 0, .int (nI c)] M (fun q M' => (q, M') = if tyOk c = true ∧ w < 40 then (some (nI 1), zI (zI M 1 w (nI c)) 0 1 (nI (w + 1))) else (some (nI 0), M)) := by
  unfold Ct
  refine ev_il dK_type_0 rfl (by first | assumption | rfl) ?_
  refine ev_const (v := nI 10) dK_type_1 (by decide) ?_
  refine ev_icmp (tgt := 18) dK_type_3 (by decide) (fun h3 => ?_) (fun h3 => ?_)
  · try simp (disch := omega) only [zcond, nI_ltI, nI_leI, nI_eq, zb0, Classical.not_not, Bool.not_eq_false, Bool.not_eq_true, Nat.not_lt, Nat.not_le] at h3
    refine ev_const (v := nI 1) dK_type_18 (by decide) ?_
    refine ev_goto (tgt := 23) dK_type_19 (by decide) ?_
    refine ev_is dK_type_23 rfl (Nat.le_of_ble_eq_true rfl) ?_
    refine ev_il dK_type_24 rfl (by first | assumption | rfl) ?_
    refine ev_if0 (tgt := 37) dK_type_25 (by decide) (fun h25 => ?_) (fun h25 => ?_)
    · simp only [zcond] at h25
      refine ev_const (v := nI 0) dK_type_37 (by decide) ?_
      refine ev_ret dK_type_38 rfl rfl ?_
      first
      | (rw [if_neg (by simp [tyOk]; omega)])
      | (exfalso; exact h25 rfl)
      | (exfalso; exact h25 trivial)
      | (exfalso; exact absurd h25 (show ¬ nI 1 = nI 0 by decide))
    · simp only [zcond] at h25
      refine ev_al dK_type_28 rfl (by first | assumption | rfl) ?_
      refine ev_geti dK_type_29 fK_27 rfl ?_
      rw [hw]
      refine ev_const (v := nI 40) dK_type_32 (by decide) ?_
      refine ev_icmp (tgt := 39) dK_type_34 (by decide) (fun h34 => ?_) (fun h34 => ?_)
      · try simp (disch := omega) only [zcond, nI_ltI, nI_leI, nI_eq, zb0, Classical.not_not, Bool.not_eq_false, Bool.not_eq_true, Nat.not_lt, Nat.not_le] at h34
        refine ev_al dK_type_39 rfl (by first | assumption | rfl) ?_
        refine ev_getrP dK_type_40 fK_9 rfl (zq (q := 1) hP rfl) ?_
        refine ev_al dK_type_43 rfl (by first | assumption | rfl) ?_
        refine ev_geti dK_type_44 fK_27 rfl ?_
        rw [hw]
        refine ev_il dK_type_47 rfl (by first | assumption | rfl) ?_
        refine ev_castN dK_type_48 rfl (by omega) (by omega) ?_
        refine ev_al dK_type_49 rfl (by first | assumption | rfl) ?_
        refine ev_stk dK_type_50 rfl ?_
        refine ev_geti dK_type_51 fK_27 rfl ?_
        rw [show (zI M 1 w (nI c)).1 0 1 = nI w from (zI_o (by omega)).trans hw]
        refine ev_const (v := nI 1) dK_type_54 (by decide) ?_
        first | with_reducible refine ev_addN dK_type_55 ?_ | refine ev_add dK_type_55 ?_
        refine ev_puti dK_type_56 fK_27 fwK_rowSize rfl (vp_nar_int _) rfl ?_
        refine ev_const (v := nI 1) dK_type_59 (by decide) ?_
        refine ev_ret dK_type_60 rfl rfl ?_
        first
        | (rw [if_pos (by simp [tyOk]; omega)])
        | (exfalso; exact h25 rfl)
        | (exfalso; exact h25 trivial)
      · try simp (disch := omega) only [zcond, nI_ltI, nI_leI, nI_eq, zb0, Classical.not_not, Bool.not_eq_false, Bool.not_eq_true, Nat.not_lt, Nat.not_le] at h34
        refine ev_const (v := nI 0) dK_type_37 (by decide) ?_
        refine ev_ret dK_type_38 rfl rfl ?_
        first
        | (rw [if_neg (by simp [tyOk]; omega)])
        | (exfalso; exact h25 rfl)
        | (exfalso; exact h25 trivial)
        | (exfalso; exact absurd h25 (show ¬ nI 1 = nI 0 by decide))
  · try simp (disch := omega) only [zcond, nI_ltI, nI_leI, nI_eq, zb0, Classical.not_not, Bool.not_eq_false, Bool.not_eq_true, Nat.not_lt, Nat.not_le] at h3
    refine ev_il dK_type_6 rfl (by first | assumption | rfl) ?_
    refine ev_const (v := nI 32) dK_type_7 (by decide) ?_
    refine ev_icmp (tgt := 22) dK_type_9 (by decide) (fun h9 => ?_) (fun h9 => ?_)
    · try simp (disch := omega) only [zcond, nI_ltI, nI_leI, nI_eq, zb0, Classical.not_not, Bool.not_eq_false, Bool.not_eq_true, Nat.not_lt, Nat.not_le] at h9
      refine ev_const (v := nI 0) dK_type_22 (by decide) ?_
      refine ev_is dK_type_23 rfl (Nat.le_of_ble_eq_true rfl) ?_
      refine ev_il dK_type_24 rfl (by first | assumption | rfl) ?_
      refine ev_if0 (tgt := 37) dK_type_25 (by decide) (fun h25 => ?_) (fun h25 => ?_)
      · simp only [zcond] at h25
        refine ev_const (v := nI 0) dK_type_37 (by decide) ?_
        refine ev_ret dK_type_38 rfl rfl ?_
        first
        | (rw [if_neg (by simp [tyOk]; omega)])
        | (exfalso; exact h25 rfl)
        | (exfalso; exact h25 trivial)
        | (exfalso; exact absurd h25 (show ¬ nI 1 = nI 0 by decide))
      · simp only [zcond] at h25
        refine ev_al dK_type_28 rfl (by first | assumption | rfl) ?_
        refine ev_geti dK_type_29 fK_27 rfl ?_
        rw [hw]
        refine ev_const (v := nI 40) dK_type_32 (by decide) ?_
        refine ev_icmp (tgt := 39) dK_type_34 (by decide) (fun h34 => ?_) (fun h34 => ?_)
        · try simp (disch := omega) only [zcond, nI_ltI, nI_leI, nI_eq, zb0, Classical.not_not, Bool.not_eq_false, Bool.not_eq_true, Nat.not_lt, Nat.not_le] at h34
          refine ev_al dK_type_39 rfl (by first | assumption | rfl) ?_
          refine ev_getrP dK_type_40 fK_9 rfl (zq (q := 1) hP rfl) ?_
          refine ev_al dK_type_43 rfl (by first | assumption | rfl) ?_
          refine ev_geti dK_type_44 fK_27 rfl ?_
          rw [hw]
          refine ev_il dK_type_47 rfl (by first | assumption | rfl) ?_
          refine ev_castN dK_type_48 rfl (by omega) (by omega) ?_
          refine ev_al dK_type_49 rfl (by first | assumption | rfl) ?_
          refine ev_stk dK_type_50 rfl ?_
          refine ev_geti dK_type_51 fK_27 rfl ?_
          rw [show (zI M 1 w (nI c)).1 0 1 = nI w from (zI_o (by omega)).trans hw]
          refine ev_const (v := nI 1) dK_type_54 (by decide) ?_
          first | with_reducible refine ev_addN dK_type_55 ?_ | refine ev_add dK_type_55 ?_
          refine ev_puti dK_type_56 fK_27 fwK_rowSize rfl (vp_nar_int _) rfl ?_
          refine ev_const (v := nI 1) dK_type_59 (by decide) ?_
          refine ev_ret dK_type_60 rfl rfl ?_
          first
          | (rw [if_pos (by simp [tyOk]; omega)])
          | (exfalso; exact h25 rfl)
          | (exfalso; exact h25 trivial)
        · try simp (disch := omega) only [zcond, nI_ltI, nI_leI, nI_eq, zb0, Classical.not_not, Bool.not_eq_false, Bool.not_eq_true, Nat.not_lt, Nat.not_le] at h34
          refine ev_const (v := nI 0) dK_type_37 (by decide) ?_
          refine ev_ret dK_type_38 rfl rfl ?_
          first
          | (rw [if_neg (by simp [tyOk]; omega)])
          | (exfalso; exact h25 rfl)
          | (exfalso; exact h25 trivial)
          | (exfalso; exact absurd h25 (show ¬ nI 1 = nI 0 by decide))
    · try simp (disch := omega) only [zcond, nI_ltI, nI_leI, nI_eq, zb0, Classical.not_not, Bool.not_eq_false, Bool.not_eq_true, Nat.not_lt, Nat.not_le] at h9
      refine ev_il dK_type_12 rfl (by first | assumption | rfl) ?_
      refine ev_const (v := nI 126) dK_type_13 (by decide) ?_
      refine ev_icmp (tgt := 22) dK_type_15 (by decide) (fun h15 => ?_) (fun h15 => ?_)
      · try simp (disch := omega) only [zcond, nI_ltI, nI_leI, nI_eq, zb0, Classical.not_not, Bool.not_eq_false, Bool.not_eq_true, Nat.not_lt, Nat.not_le] at h15
        refine ev_const (v := nI 0) dK_type_22 (by decide) ?_
        refine ev_is dK_type_23 rfl (Nat.le_of_ble_eq_true rfl) ?_
        refine ev_il dK_type_24 rfl (by first | assumption | rfl) ?_
        refine ev_if0 (tgt := 37) dK_type_25 (by decide) (fun h25 => ?_) (fun h25 => ?_)
        · simp only [zcond] at h25
          refine ev_const (v := nI 0) dK_type_37 (by decide) ?_
          refine ev_ret dK_type_38 rfl rfl ?_
          first
          | (rw [if_neg (by simp [tyOk]; omega)])
          | (exfalso; exact h25 rfl)
          | (exfalso; exact h25 trivial)
          | (exfalso; exact absurd h25 (show ¬ nI 1 = nI 0 by decide))
        · simp only [zcond] at h25
          refine ev_al dK_type_28 rfl (by first | assumption | rfl) ?_
          refine ev_geti dK_type_29 fK_27 rfl ?_
          rw [hw]
          refine ev_const (v := nI 40) dK_type_32 (by decide) ?_
          refine ev_icmp (tgt := 39) dK_type_34 (by decide) (fun h34 => ?_) (fun h34 => ?_)
          · try simp (disch := omega) only [zcond, nI_ltI, nI_leI, nI_eq, zb0, Classical.not_not, Bool.not_eq_false, Bool.not_eq_true, Nat.not_lt, Nat.not_le] at h34
            refine ev_al dK_type_39 rfl (by first | assumption | rfl) ?_
            refine ev_getrP dK_type_40 fK_9 rfl (zq (q := 1) hP rfl) ?_
            refine ev_al dK_type_43 rfl (by first | assumption | rfl) ?_
            refine ev_geti dK_type_44 fK_27 rfl ?_
            rw [hw]
            refine ev_il dK_type_47 rfl (by first | assumption | rfl) ?_
            refine ev_castN dK_type_48 rfl (by omega) (by omega) ?_
            refine ev_al dK_type_49 rfl (by first | assumption | rfl) ?_
            refine ev_stk dK_type_50 rfl ?_
            refine ev_geti dK_type_51 fK_27 rfl ?_
            rw [show (zI M 1 w (nI c)).1 0 1 = nI w from (zI_o (by omega)).trans hw]
            refine ev_const (v := nI 1) dK_type_54 (by decide) ?_
            first | with_reducible refine ev_addN dK_type_55 ?_ | refine ev_add dK_type_55 ?_
            refine ev_puti dK_type_56 fK_27 fwK_rowSize rfl (vp_nar_int _) rfl ?_
            refine ev_const (v := nI 1) dK_type_59 (by decide) ?_
            refine ev_ret dK_type_60 rfl rfl ?_
            first
            | (rw [if_pos (by simp [tyOk]; omega)])
            | (exfalso; exact h25 rfl)
            | (exfalso; exact h25 trivial)
          · try simp (disch := omega) only [zcond, nI_ltI, nI_leI, nI_eq, zb0, Classical.not_not, Bool.not_eq_false, Bool.not_eq_true, Nat.not_lt, Nat.not_le] at h34
            refine ev_const (v := nI 0) dK_type_37 (by decide) ?_
            refine ev_ret dK_type_38 rfl rfl ?_
            first
            | (rw [if_neg (by simp [tyOk]; omega)])
            | (exfalso; exact h25 rfl)
            | (exfalso; exact h25 trivial)
            | (exfalso; exact absurd h25 (show ¬ nI 1 = nI 0 by decide))
      · try simp (disch := omega) only [zcond, nI_ltI, nI_leI, nI_eq, zb0, Classical.not_not, Bool.not_eq_false, Bool.not_eq_true, Nat.not_lt, Nat.not_le] at h15
        refine ev_const (v := nI 1) dK_type_18 (by decide) ?_
        refine ev_goto (tgt := 23) dK_type_19 (by decide) ?_
        refine ev_is dK_type_23 rfl (Nat.le_of_ble_eq_true rfl) ?_
        refine ev_il dK_type_24 rfl (by first | assumption | rfl) ?_
        refine ev_if0 (tgt := 37) dK_type_25 (by decide) (fun h25 => ?_) (fun h25 => ?_)
        · simp only [zcond] at h25
          refine ev_const (v := nI 0) dK_type_37 (by decide) ?_
          refine ev_ret dK_type_38 rfl rfl ?_
          first
          | (rw [if_neg (by simp [tyOk]; omega)])
          | (exfalso; exact h25 rfl)
          | (exfalso; exact h25 trivial)
          | (exfalso; exact absurd h25 (show ¬ nI 1 = nI 0 by decide))
        · simp only [zcond] at h25
          refine ev_al dK_type_28 rfl (by first | assumption | rfl) ?_
          refine ev_geti dK_type_29 fK_27 rfl ?_
          rw [hw]
          refine ev_const (v := nI 40) dK_type_32 (by decide) ?_
          refine ev_icmp (tgt := 39) dK_type_34 (by decide) (fun h34 => ?_) (fun h34 => ?_)
          · try simp (disch := omega) only [zcond, nI_ltI, nI_leI, nI_eq, zb0, Classical.not_not, Bool.not_eq_false, Bool.not_eq_true, Nat.not_lt, Nat.not_le] at h34
            refine ev_al dK_type_39 rfl (by first | assumption | rfl) ?_
            refine ev_getrP dK_type_40 fK_9 rfl (zq (q := 1) hP rfl) ?_
            refine ev_al dK_type_43 rfl (by first | assumption | rfl) ?_
            refine ev_geti dK_type_44 fK_27 rfl ?_
            rw [hw]
            refine ev_il dK_type_47 rfl (by first | assumption | rfl) ?_
            refine ev_castN dK_type_48 rfl (by omega) (by omega) ?_
            refine ev_al dK_type_49 rfl (by first | assumption | rfl) ?_
            refine ev_stk dK_type_50 rfl ?_
            refine ev_geti dK_type_51 fK_27 rfl ?_
            rw [show (zI M 1 w (nI c)).1 0 1 = nI w from (zI_o (by omega)).trans hw]
            refine ev_const (v := nI 1) dK_type_54 (by decide) ?_
            first | with_reducible refine ev_addN dK_type_55 ?_ | refine ev_add dK_type_55 ?_
            refine ev_puti dK_type_56 fK_27 fwK_rowSize rfl (vp_nar_int _) rfl ?_
            refine ev_const (v := nI 1) dK_type_59 (by decide) ?_
            refine ev_ret dK_type_60 rfl rfl ?_
            first
            | (rw [if_pos (by simp [tyOk]; omega)])
            | (exfalso; exact h25 rfl)
            | (exfalso; exact h25 trivial)
          · try simp (disch := omega) only [zcond, nI_ltI, nI_leI, nI_eq, zb0, Classical.not_not, Bool.not_eq_false, Bool.not_eq_true, Nat.not_lt, Nat.not_le] at h34
            refine ev_const (v := nI 0) dK_type_37 (by decide) ?_
            refine ev_ret dK_type_38 rfl rfl ?_
            first
            | (rw [if_neg (by simp [tyOk]; omega)])
            | (exfalso; exact h25 rfl)
            | (exfalso; exact h25 trivial)
            | (exfalso; exact absurd h25 (show ¬ nI 1 = nI 0 by decide))
set_option maxRecDepth 100000 in
set_option maxHeartbeats 4000000 in
theorem k_at_in {e k c : Nat} (hP : M.2.1 = zP0 n b) (hn : zR n) (he : M.1 (n + 1) 1 = nI e) (he2 : e ≤ 160) (hk : k < e) (hc : M.1 (n + 3) k = nI c) (hc2 : c < 65536) : Pu Lx xs d mK_at [.ref 0, .int (nI k)] M (nI c) := by
  unfold Pu Ct
  refine ev_il dK_at_0 rfl (by first | assumption | rfl) ?_
  refine ev_if0 (tgt := 33) dK_at_1 (by decide) (fun h1 => ?_) (fun h1 => ?_)
  · first | omega | (simp (disch := omega) only [zcond, nI_ltI, nI_leI, nI_eq] at h1; omega)
  · try simp (disch := omega) only [zcond, nI_ltI, nI_leI, nI_eq, zb0, Classical.not_not, Bool.not_eq_false, Bool.not_eq_true, Nat.not_lt, Nat.not_le] at h1
    refine ev_il dK_at_4 rfl (by first | assumption | rfl) ?_
    refine ev_al dK_at_5 rfl (by first | assumption | rfl) ?_
    refine ev_getrP dK_at_6 fK_16 rfl (zq (q := n) hP rfl) ?_
    refine ev_getrP dK_at_9 fK_31 (sh_R hn) (zq hP (pt_source hn)) ?_
    refine ev_geti dK_at_12 fK_35 (sh_S hn) ?_
    rw [he]
    refine ev_icmp (tgt := 33) dK_at_15 (by decide) (fun h15 => ?_) (fun h15 => ?_)
    · first | omega | (simp (disch := omega) only [zcond, nI_ltI, nI_leI, nI_eq] at h15; omega)
    · try simp (disch := omega) only [zcond, nI_ltI, nI_leI, nI_eq, zb0, Classical.not_not, Bool.not_eq_false, Bool.not_eq_true, Nat.not_lt, Nat.not_le] at h15
      refine ev_al dK_at_18 rfl (by first | assumption | rfl) ?_
      refine ev_getrP dK_at_19 fK_16 rfl (zq (q := n) hP rfl) ?_
      refine ev_getrP dK_at_22 fK_31 (sh_R hn) (zq hP (pt_source hn)) ?_
      refine ev_getrP dK_at_25 fK_66 (sh_S hn) (zq hP (pt_chars hn)) ?_
      refine ev_il dK_at_28 rfl (by first | assumption | rfl) ?_
      refine ev_aldN dK_at_29 rfl (sh_chars hn) (by omega) ?_
      rw [hc]
      refine ev_goto (tgt := 34) dK_at_30 (by decide) ?_
      refine ev_ret dK_at_34 rfl (zchr (by omega)) ?_
      exact ⟨rfl, rfl⟩
set_option maxRecDepth 100000 in
set_option maxHeartbeats 4000000 in
theorem k_at_out {e : Nat} {x : Int32} (hP : M.2.1 = zP0 n b) (hn : zR n) (he : M.1 (n + 1) 1 = nI e) (h : x < nI 0 ∨ nI e ≤ x) : Pu Lx xs d mK_at [.ref 0, .int x] M (nI 0) := by
  unfold Pu Ct
  refine ev_il dK_at_0 rfl (by first | assumption | rfl) ?_
  refine ev_if0 (tgt := 33) dK_at_1 (by decide) (fun h1 => ?_) (fun h1 => ?_)
  · refine ev_const (v := nI 0) dK_at_33 (by decide) ?_
    refine ev_ret dK_at_34 rfl rfl ?_
    exact ⟨rfl, rfl⟩
  · refine ev_il dK_at_4 rfl (by first | assumption | rfl) ?_
    refine ev_al dK_at_5 rfl (by first | assumption | rfl) ?_
    refine ev_getrP dK_at_6 fK_16 rfl (zq (q := n) hP rfl) ?_
    refine ev_getrP dK_at_9 fK_31 (sh_R hn) (zq hP (pt_source hn)) ?_
    refine ev_geti dK_at_12 fK_35 (sh_S hn) ?_
    rw [he]
    refine ev_icmp (tgt := 33) dK_at_15 (by decide) (fun h15 => ?_) (fun h15 => ?_)
    · refine ev_const (v := nI 0) dK_at_33 (by decide) ?_
      refine ev_ret dK_at_34 rfl rfl ?_
      exact ⟨rfl, rfl⟩
    · exact (h.elim h1 h15).elim
set_option maxRecDepth 100000 in
set_option maxHeartbeats 4000000 in
theorem k_token_in {c k : Nat} (hP : M.2.1 = zP0 n b) (hn : zR n) (hc : M.1 (n + 1) 4 = nI c) (hc2 : c ≤ 160) (hk : k < c) : Pu Lx xs d mK_token [.ref 0, .int (nI k)] M (M.1 (n + 4) k) := by
  unfold Pu Ct
  refine ev_il dK_token_0 rfl (by first | assumption | rfl) ?_
  refine ev_if0 (tgt := 18) dK_token_1 (by decide) (fun h1 => ?_) (fun h1 => ?_)
  · first | omega | (simp (disch := omega) only [zcond, nI_ltI, nI_leI, nI_eq] at h1; omega)
  · try simp (disch := omega) only [zcond, nI_ltI, nI_leI, nI_eq, zb0, Classical.not_not, Bool.not_eq_false, Bool.not_eq_true, Nat.not_lt, Nat.not_le] at h1
    refine ev_il dK_token_4 rfl (by first | assumption | rfl) ?_
    refine ev_al dK_token_5 rfl (by first | assumption | rfl) ?_
    refine ev_getrP dK_token_6 fK_16 rfl (zq (q := n) hP rfl) ?_
    refine ev_getrP dK_token_9 fK_31 (sh_R hn) (zq hP (pt_source hn)) ?_
    refine ev_geti dK_token_12 fK_63 (sh_S hn) ?_
    rw [hc]
    refine ev_icmp (tgt := 26) dK_token_15 (by decide) (fun h15 => ?_) (fun h15 => ?_)
    · try simp (disch := omega) only [zcond, nI_ltI, nI_leI, nI_eq, zb0, Classical.not_not, Bool.not_eq_false, Bool.not_eq_true, Nat.not_lt, Nat.not_le] at h15
      refine ev_al dK_token_26 rfl (by first | assumption | rfl) ?_
      refine ev_getrP dK_token_27 fK_16 rfl (zq (q := n) hP rfl) ?_
      refine ev_getrP dK_token_30 fK_31 (sh_R hn) (zq hP (pt_source hn)) ?_
      refine ev_getrP dK_token_33 fK_69 (sh_S hn) (zq hP (pt_found hn)) ?_
      refine ev_il dK_token_36 rfl (by first | assumption | rfl) ?_
      refine ev_aldN dK_token_37 rfl (sh_found hn) (by omega) ?_
      refine ev_ret dK_token_38 rfl rfl ?_
      exact ⟨rfl, rfl⟩
    · first | omega | (simp (disch := omega) only [zcond, nI_ltI, nI_leI, nI_eq] at h15; omega)
set_option maxRecDepth 100000 in
set_option maxHeartbeats 4000000 in
theorem k_token_out {c : Nat} {x : Int32} (hP : M.2.1 = zP0 n b) (hn : zR n) (hc : M.1 (n + 1) 4 = nI c) (h : x < nI 0 ∨ nI c ≤ x) : Ev Lx xs d mK_token 0 (zarg [.ref 0, .int x]) [] M (fun pc' _ st' M' => pc' = 18 ∧ st' = [] ∧ M' = M) := by
  refine ev_il dK_token_0 rfl (by first | assumption | rfl) ?_
  refine ev_if0 (tgt := 18) dK_token_1 (by decide) (fun h1 => ?_) (fun h1 => ?_)
  · exact ev_done ⟨rfl, rfl, rfl⟩
  · refine ev_il dK_token_4 rfl (by first | assumption | rfl) ?_
    refine ev_al dK_token_5 rfl (by first | assumption | rfl) ?_
    refine ev_getrP dK_token_6 fK_16 rfl (zq (q := n) hP rfl) ?_
    refine ev_getrP dK_token_9 fK_31 (sh_R hn) (zq hP (pt_source hn)) ?_
    refine ev_geti dK_token_12 fK_63 (sh_S hn) ?_
    rw [hc]
    refine ev_icmp (tgt := 26) dK_token_15 (by decide) (fun h15 => ?_) (fun h15 => ?_)
    · exact (h.elim h1 (Int32.not_le.mpr h15)).elim
    · exact ev_done ⟨rfl, rfl, rfl⟩
set_option maxRecDepth 100000 in
set_option maxHeartbeats 4000000 in
theorem k_number_in {c k : Nat} (hP : M.2.1 = zP0 n b) (hn : zR n) (hc : M.1 (n + 2) 5 = nI c) (hc2 : c ≤ 160) (hk : k < c) : Pu Lx xs (d + 1) mK_number [.ref 0, .int (nI k)] M (M.1 (n + 10) k) := by
  unfold Pu Ct
  refine ev_al dK_number_0 rfl (by first | assumption | rfl) ?_
  refine ev_getrP dK_number_1 fK_16 rfl (zq (q := n) hP rfl) ?_
  refine ev_getrP dK_number_4 fK_76 (sh_R hn) (zq hP (pt_tree hn)) ?_
  refine ev_il dK_number_7 rfl (by first | assumption | rfl) ?_
  refine ev_pV dK_number_8 (c_has_in hP hn hc hc2 hk) lK_86 (rec_T hn) rfl (Nat.le_of_ble_eq_true rfl) rfl (Nat.le_of_ble_eq_true rfl) ?_
  refine ev_if0 (tgt := 29) dK_number_11 (by decide) (fun h11 => ?_) (fun h11 => ?_)
  · exact absurd h11 (show ¬ nI 1 = nI 0 by decide)
  · refine ev_al dK_number_14 rfl (by first | assumption | rfl) ?_
    refine ev_getrP dK_number_15 fK_16 rfl (zq (q := n) hP rfl) ?_
    refine ev_getrP dK_number_18 fK_76 (sh_R hn) (zq hP (pt_tree hn)) ?_
    refine ev_getrP dK_number_21 fK_90 (sh_T hn) (zq hP (pt_numbers hn)) ?_
    refine ev_il dK_number_24 rfl (by first | assumption | rfl) ?_
    refine ev_aldN dK_number_25 rfl (sh_numbers hn) (by omega) ?_
    refine ev_goto (tgt := 30) dK_number_26 (by decide) ?_
    refine ev_ret dK_number_30 rfl rfl ?_
    exact ⟨rfl, rfl⟩
set_option maxRecDepth 100000 in
set_option maxHeartbeats 4000000 in
theorem k_number_out {c : Nat} {x : Int32} (hP : M.2.1 = zP0 n b) (hn : zR n) (hc : M.1 (n + 2) 5 = nI c) (h : x < nI 0 ∨ nI c ≤ x) : Pu Lx xs (d + 1) mK_number [.ref 0, .int x] M (-1) := by
  unfold Pu Ct
  refine ev_al dK_number_0 rfl (by first | assumption | rfl) ?_
  refine ev_getrP dK_number_1 fK_16 rfl (zq (q := n) hP rfl) ?_
  refine ev_getrP dK_number_4 fK_76 (sh_R hn) (zq hP (pt_tree hn)) ?_
  refine ev_il dK_number_7 rfl (by first | assumption | rfl) ?_
  refine ev_pV dK_number_8 (c_has_out hP hn hc h) lK_86 (rec_T hn) rfl (Nat.le_of_ble_eq_true rfl) rfl (Nat.le_of_ble_eq_true rfl) ?_
  refine ev_if0 (tgt := 29) dK_number_11 (by decide) (fun h11 => ?_) (fun h11 => ?_)
  · refine ev_const (v := -1) dK_number_29 (by decide) ?_
    refine ev_ret dK_number_30 rfl rfl ?_
    exact ⟨rfl, rfl⟩
  · exact (h11 rfl).elim
set_option maxRecDepth 100000 in
set_option maxHeartbeats 4000000 in
theorem k_level_in {c k : Nat} (hP : M.2.1 = zP0 n b) (hn : zR n) (hc : M.1 (n + 2) 5 = nI c) (hc2 : c ≤ 160) (hk : k < c) : Pu Lx xs (d + 1) mK_level [.ref 0, .int (nI k)] M (M.1 (n + 8) k) := by
  unfold Pu Ct
  refine ev_al dK_level_0 rfl (by first | assumption | rfl) ?_
  refine ev_getrP dK_level_1 fK_16 rfl (zq (q := n) hP rfl) ?_
  refine ev_getrP dK_level_4 fK_76 (sh_R hn) (zq hP (pt_tree hn)) ?_
  refine ev_il dK_level_7 rfl (by first | assumption | rfl) ?_
  refine ev_pV dK_level_8 (c_has_in hP hn hc hc2 hk) lK_86 (rec_T hn) rfl (Nat.le_of_ble_eq_true rfl) rfl (Nat.le_of_ble_eq_true rfl) ?_
  refine ev_if0 (tgt := 29) dK_level_11 (by decide) (fun h11 => ?_) (fun h11 => ?_)
  · exact absurd h11 (show ¬ nI 1 = nI 0 by decide)
  · refine ev_al dK_level_14 rfl (by first | assumption | rfl) ?_
    refine ev_getrP dK_level_15 fK_16 rfl (zq (q := n) hP rfl) ?_
    refine ev_getrP dK_level_18 fK_76 (sh_R hn) (zq hP (pt_tree hn)) ?_
    refine ev_getrP dK_level_21 fK_109 (sh_T hn) (zq hP (pt_levels hn)) ?_
    refine ev_il dK_level_24 rfl (by first | assumption | rfl) ?_
    refine ev_aldN dK_level_25 rfl (sh_levels hn) (by omega) ?_
    refine ev_goto (tgt := 30) dK_level_26 (by decide) ?_
    refine ev_ret dK_level_30 rfl rfl ?_
    exact ⟨rfl, rfl⟩
set_option maxRecDepth 100000 in
set_option maxHeartbeats 4000000 in
theorem k_level_out {c : Nat} {x : Int32} (hP : M.2.1 = zP0 n b) (hn : zR n) (hc : M.1 (n + 2) 5 = nI c) (h : x < nI 0 ∨ nI c ≤ x) : Pu Lx xs (d + 1) mK_level [.ref 0, .int x] M (-1) := by
  unfold Pu Ct
  refine ev_al dK_level_0 rfl (by first | assumption | rfl) ?_
  refine ev_getrP dK_level_1 fK_16 rfl (zq (q := n) hP rfl) ?_
  refine ev_getrP dK_level_4 fK_76 (sh_R hn) (zq hP (pt_tree hn)) ?_
  refine ev_il dK_level_7 rfl (by first | assumption | rfl) ?_
  refine ev_pV dK_level_8 (c_has_out hP hn hc h) lK_86 (rec_T hn) rfl (Nat.le_of_ble_eq_true rfl) rfl (Nat.le_of_ble_eq_true rfl) ?_
  refine ev_if0 (tgt := 29) dK_level_11 (by decide) (fun h11 => ?_) (fun h11 => ?_)
  · refine ev_const (v := -1) dK_level_29 (by decide) ?_
    refine ev_ret dK_level_30 rfl rfl ?_
    exact ⟨rfl, rfl⟩
  · exact (h11 rfl).elim
set_option maxRecDepth 100000 in
set_option maxHeartbeats 4000000 in
theorem k_begin_out {c : Nat} {x : Int32} (hP : M.2.1 = zP0 n b) (hn : zR n) (hc : M.1 (n + 2) 5 = nI c) (h : x < nI 0 ∨ nI c ≤ x) : Ev Lx xs (d + 1) mK_begin 0 (zarg [.ref 0, .int x]) [] M (fun pc' _ st' M' => pc' = 14 ∧ st' = [] ∧ M' = M) := by
  refine ev_al dK_begin_0 rfl (by first | assumption | rfl) ?_
  refine ev_getrP dK_begin_1 fK_16 rfl (zq (q := n) hP rfl) ?_
  refine ev_getrP dK_begin_4 fK_76 (sh_R hn) (zq hP (pt_tree hn)) ?_
  refine ev_il dK_begin_7 rfl (by first | assumption | rfl) ?_
  refine ev_pV dK_begin_8 (c_has_out hP hn hc h) lK_86 (rec_T hn) rfl (Nat.le_of_ble_eq_true rfl) rfl (Nat.le_of_ble_eq_true rfl) ?_
  refine ev_if0 (tgt := 22) dK_begin_11 (by decide) (fun h11 => ?_) (fun h11 => ?_)
  · exact absurd rfl h11
  · exact ev_done ⟨rfl, rfl, rfl⟩
set_option maxRecDepth 100000 in
set_option maxHeartbeats 4000000 in
theorem k_end_out {c : Nat} {x : Int32} (hP : M.2.1 = zP0 n b) (hn : zR n) (hc : M.1 (n + 2) 5 = nI c) (h : x < nI 0 ∨ nI c ≤ x) : Ev Lx xs (d + 1) mK_end 0 (zarg [.ref 0, .int x]) [] M (fun pc' _ st' M' => pc' = 14 ∧ st' = [] ∧ M' = M) := by
  refine ev_al dK_end_0 rfl (by first | assumption | rfl) ?_
  refine ev_getrP dK_end_1 fK_16 rfl (zq (q := n) hP rfl) ?_
  refine ev_getrP dK_end_4 fK_76 (sh_R hn) (zq hP (pt_tree hn)) ?_
  refine ev_il dK_end_7 rfl (by first | assumption | rfl) ?_
  refine ev_pV dK_end_8 (c_has_out hP hn hc h) lK_86 (rec_T hn) rfl (Nat.le_of_ble_eq_true rfl) rfl (Nat.le_of_ble_eq_true rfl) ?_
  refine ev_if0 (tgt := 22) dK_end_11 (by decide) (fun h11 => ?_) (fun h11 => ?_)
  · exact absurd rfl h11
  · exact ev_done ⟨rfl, rfl, rfl⟩
set_option maxRecDepth 100000 in
set_option maxHeartbeats 4000000 in
theorem k_value_out {c : Nat} {x : Int32} (hP : M.2.1 = zP0 n b) (hn : zR n) (hc : M.1 (n + 2) 5 = nI c) (h : x < nI 0 ∨ nI c ≤ x) : Ev Lx xs (d + 1) mK_value 0 (zarg [.ref 0, .int x]) [] M (fun pc' _ st' M' => pc' = 14 ∧ st' = [] ∧ M' = M) := by
  refine ev_al dK_value_0 rfl (by first | assumption | rfl) ?_
  refine ev_getrP dK_value_1 fK_16 rfl (zq (q := n) hP rfl) ?_
  refine ev_getrP dK_value_4 fK_76 (sh_R hn) (zq hP (pt_tree hn)) ?_
  refine ev_il dK_value_7 rfl (by first | assumption | rfl) ?_
  refine ev_pV dK_value_8 (c_has_out hP hn hc h) lK_86 (rec_T hn) rfl (Nat.le_of_ble_eq_true rfl) rfl (Nat.le_of_ble_eq_true rfl) ?_
  refine ev_if0 (tgt := 22) dK_value_11 (by decide) (fun h11 => ?_) (fun h11 => ?_)
  · exact absurd rfl h11
  · exact ev_done ⟨rfl, rfl, rfl⟩
set_option maxRecDepth 100000 in
set_option maxHeartbeats 4000000 in
theorem k_value_in {c k : Nat} (hP : M.2.1 = zP0 n b) (hn : zR n) (hc : M.1 (n + 2) 5 = nI c) (hc2 : c ≤ 160) (hk : k < c) : Pu Lx xs (d + 1) mK_value [.ref 0, .int (nI k)] M (M.1 (n + 9) k) := by
  unfold Pu Ct
  refine ev_al dK_value_0 rfl (by first | assumption | rfl) ?_
  refine ev_getrP dK_value_1 fK_16 rfl (zq (q := n) hP rfl) ?_
  refine ev_getrP dK_value_4 fK_76 (sh_R hn) (zq hP (pt_tree hn)) ?_
  refine ev_il dK_value_7 rfl (by first | assumption | rfl) ?_
  refine ev_pV dK_value_8 (c_has_in hP hn hc hc2 hk) lK_86 (rec_T hn) rfl (Nat.le_of_ble_eq_true rfl) rfl (Nat.le_of_ble_eq_true rfl) ?_
  refine ev_if0 (tgt := 22) dK_value_11 (by decide) (fun h11 => ?_) (fun h11 => ?_)
  · refine ev_al dK_value_22 rfl (by first | assumption | rfl) ?_
    refine ev_getrP dK_value_23 fK_16 rfl (zq (q := n) hP rfl) ?_
    refine ev_getrP dK_value_26 fK_76 (sh_R hn) (zq hP (pt_tree hn)) ?_
    refine ev_getrP dK_value_29 fK_112 (sh_T hn) (zq hP (pt_values hn)) ?_
    refine ev_il dK_value_32 rfl (by first | assumption | rfl) ?_
    refine ev_aldN dK_value_33 rfl (sh_values hn) (by omega) ?_
    refine ev_ret dK_value_34 rfl rfl ?_
    exact ⟨rfl, rfl⟩
  · exact absurd h11 (show ¬ ¬ ¬ nI 1 = nI 0 by decide)
set_option maxRecDepth 100000 in
set_option maxHeartbeats 4000000 in
theorem k_begin_in {c k a v : Nat} (hP : M.2.1 = zP0 n b) (hn : zR n) (hc : M.1 (n + 2) 5 = nI c) (hc2 : c ≤ 160) (hk : k < c) (ha : M.1 (n + 6) k = nI a) (ha2 : a < 160) (hv : M.1 (n + 4) a = nI v) (hv2 : v < 2 ^ 31) : Pu Lx xs (d + 1) mK_begin [.ref 0, .int (nI k)] M (nI (v / 2048)) := by
  unfold Pu Ct
  refine ev_al dK_begin_0 rfl (by first | assumption | rfl) ?_
  refine ev_getrP dK_begin_1 fK_16 rfl (zq (q := n) hP rfl) ?_
  refine ev_getrP dK_begin_4 fK_76 (sh_R hn) (zq hP (pt_tree hn)) ?_
  refine ev_il dK_begin_7 rfl (by first | assumption | rfl) ?_
  refine ev_pV dK_begin_8 (c_has_in hP hn hc hc2 hk) lK_86 (rec_T hn) rfl (Nat.le_of_ble_eq_true rfl) rfl (Nat.le_of_ble_eq_true rfl) ?_
  refine ev_if0 (tgt := 22) dK_begin_11 (by decide) (fun h11 => ?_) (fun h11 => ?_)
  · refine ev_al dK_begin_22 rfl (by first | assumption | rfl) ?_
    refine ev_getrP dK_begin_23 fK_16 rfl (zq (q := n) hP rfl) ?_
    refine ev_getrP dK_begin_26 fK_31 (sh_R hn) (zq hP (pt_source hn)) ?_
    refine ev_al dK_begin_29 rfl (by first | assumption | rfl) ?_
    refine ev_getrP dK_begin_30 fK_16 rfl (zq (q := n) hP rfl) ?_
    refine ev_getrP dK_begin_33 fK_76 (sh_R hn) (zq hP (pt_tree hn)) ?_
    refine ev_getrP dK_begin_36 fK_97 (sh_T hn) (zq hP (pt_firsts hn)) ?_
    refine ev_il dK_begin_39 rfl (by first | assumption | rfl) ?_
    refine ev_aldN dK_begin_40 rfl (sh_firsts hn) (by omega) ?_
    rw [ha]
    refine ev_pV dK_begin_41 (c_placeOf hP hn ha2 hv hv2) lK_100 (rec_S hn) rfl (Nat.le_of_ble_eq_true rfl) rfl (Nat.le_of_ble_eq_true rfl) ?_
    refine ev_ret dK_begin_44 rfl rfl ?_
    exact ⟨rfl, rfl⟩
  · exact absurd h11 (show ¬ ¬ ¬ nI 1 = nI 0 by decide)
set_option maxRecDepth 100000 in
set_option maxHeartbeats 4000000 in
theorem k_end_in {c k a v : Nat} (hP : M.2.1 = zP0 n b) (hn : zR n) (hc : M.1 (n + 2) 5 = nI c) (hc2 : c ≤ 160) (hk : k < c) (ha : M.1 (n + 7) k = nI a) (ha2 : a < 160) (hv : M.1 (n + 4) a = nI v) (hv2 : v < 2 ^ 31) : Pu Lx xs (d + 2) mK_end [.ref 0, .int (nI k)] M (nI (v / 2048 + v % 2048 / 8)) := by
  unfold Pu Ct
  refine ev_al dK_end_0 rfl (by first | assumption | rfl) ?_
  refine ev_getrP dK_end_1 fK_16 rfl (zq (q := n) hP rfl) ?_
  refine ev_getrP dK_end_4 fK_76 (sh_R hn) (zq hP (pt_tree hn)) ?_
  refine ev_il dK_end_7 rfl (by first | assumption | rfl) ?_
  refine ev_pV dK_end_8 (c_has_in hP hn hc hc2 hk) lK_86 (rec_T hn) rfl (Nat.le_of_ble_eq_true rfl) rfl (Nat.le_of_ble_eq_true rfl) ?_
  refine ev_if0 (tgt := 22) dK_end_11 (by decide) (fun h11 => ?_) (fun h11 => ?_)
  · refine ev_al dK_end_22 rfl (by first | assumption | rfl) ?_
    refine ev_getrP dK_end_23 fK_16 rfl (zq (q := n) hP rfl) ?_
    refine ev_getrP dK_end_26 fK_31 (sh_R hn) (zq hP (pt_source hn)) ?_
    refine ev_al dK_end_29 rfl (by first | assumption | rfl) ?_
    refine ev_getrP dK_end_30 fK_16 rfl (zq (q := n) hP rfl) ?_
    refine ev_getrP dK_end_33 fK_76 (sh_R hn) (zq hP (pt_tree hn)) ?_
    refine ev_getrP dK_end_36 fK_103 (sh_T hn) (zq hP (pt_lasts hn)) ?_
    refine ev_il dK_end_39 rfl (by first | assumption | rfl) ?_
    refine ev_aldN dK_end_40 rfl (sh_lasts hn) (by omega) ?_
    rw [ha]
    refine ev_pV dK_end_41 (c_placeBehind hP hn ha2 hv hv2) lK_106 (rec_S hn) rfl (Nat.le_of_ble_eq_true rfl) rfl (Nat.le_of_ble_eq_true rfl) ?_
    refine ev_ret dK_end_44 rfl rfl ?_
    exact ⟨rfl, rfl⟩
  · exact absurd h11 (show ¬ ¬ ¬ nI 1 = nI 0 by decide)
set_option maxRecDepth 100000 in
set_option maxHeartbeats 4000000 in
theorem k_which {c : Nat} {x : Int32} (hP : M.2.1 = zP0 n b) (hn : zR n) (hc : M.1 (n + 2) 5 = nI c) (hc2 : c ≤ 160) : Pu Lx xs (d + 1) mK_which [.ref 0, .int x] M (tNu (M.1 (n + 10)) x c 0) := by
  unfold Pu Ct
  refine ev_al dK_which_0 rfl (by first | assumption | rfl) ?_
  refine ev_getrP dK_which_1 fK_16 rfl (zq (q := n) hP rfl) ?_
  refine ev_getrP dK_which_4 fK_76 (sh_R hn) (zq hP (pt_tree hn)) ?_
  refine ev_il dK_which_7 rfl (by first | assumption | rfl) ?_
  refine ev_pV dK_which_8 (c_itemNumbered hP hn hc hc2) lK_93 (rec_T hn) rfl (Nat.le_of_ble_eq_true rfl) rfl (Nat.le_of_ble_eq_true rfl) ?_
  refine ev_ret dK_which_11 rfl rfl ?_
  exact ⟨rfl, rfl⟩
set_option maxRecDepth 100000 in
set_option maxHeartbeats 4000000 in
theorem c_faultPlace {r nT e : Nat} {s : pE} {V : Nat → Nat} (hP : M.2.1 = zP0 n b) (hr : zR r) (h1 : M.1 r 2 = nI s.1) (h2 : M.1 r 3 = nI s.2.toNat) (hs : s.1 < 2 ^ 31) (hV : Pkd M r nT V) (he : M.1 (r + 1) 1 = nI e) : Pu Lx xs (d + 1) mR_faultPlace [.ref r] M (if s.2 = true then (if s.1 < nT then nI (V s.1 / 2048) else nI e) else -1) := by
  unfold Pu Ct
  have hnT := hV.2.1
  refine ev_al dR_faultPlace_0 rfl (by first | assumption | rfl) ?_
  refine ev_geti dR_faultPlace_1 fR_29 (sh_R hr) ?_
  rw [h2]
  refine ev_if0 (tgt := 9) dR_faultPlace_4 (by decide) (fun h4 => ?_) (fun h4 => ?_)
  · try simp (disch := omega) only [zcond, nI_ltI, nI_leI, nI_eq, zb0, Classical.not_not, Bool.not_eq_false, Bool.not_eq_true, Nat.not_lt, Nat.not_le] at h4
    refine ev_al dR_faultPlace_9 rfl (by first | assumption | rfl) ?_
    refine ev_geti dR_faultPlace_10 fR_25 (sh_R hr) ?_
    rw [h1]
    refine ev_al dR_faultPlace_13 rfl (by first | assumption | rfl) ?_
    refine ev_getrP dR_faultPlace_14 fR_12 (sh_R hr) (zq hP (pt_source hr)) ?_
    refine ev_geti dR_faultPlace_17 fR_36 (sh_S hr) ?_
    rw [hV.1]
    refine ev_icmp (tgt := 37) dR_faultPlace_20 (by decide) (fun h20 => ?_) (fun h20 => ?_)
    · try simp (disch := omega) only [zcond, nI_ltI, nI_leI, nI_eq, zb0, Classical.not_not, Bool.not_eq_false, Bool.not_eq_true, Nat.not_lt, Nat.not_le] at h20
      refine ev_al dR_faultPlace_37 rfl (by first | assumption | rfl) ?_
      refine ev_getrP dR_faultPlace_38 fR_12 (sh_R hr) (zq hP (pt_source hr)) ?_
      refine ev_geti dR_faultPlace_41 fR_45 (sh_S hr) ?_
      try rw [he]
      refine ev_ret dR_faultPlace_44 rfl rfl ?_
      rw [if_pos h4]
      first | (rw [if_pos h20]; exact ⟨rfl, rfl⟩) | (rw [if_neg (by omega)]; exact ⟨rfl, rfl⟩)
    · try simp (disch := omega) only [zcond, nI_ltI, nI_leI, nI_eq, zb0, Classical.not_not, Bool.not_eq_false, Bool.not_eq_true, Nat.not_lt, Nat.not_le] at h20
      refine ev_al dR_faultPlace_23 rfl (by first | assumption | rfl) ?_
      refine ev_getrP dR_faultPlace_24 fR_12 (sh_R hr) (zq hP (pt_source hr)) ?_
      refine ev_al dR_faultPlace_27 rfl (by first | assumption | rfl) ?_
      refine ev_geti dR_faultPlace_28 fR_25 (sh_R hr) ?_
      rw [h1]
      refine ev_pV dR_faultPlace_31 (c_placeOf hP hr (by omega) (hV.2.2.1 s.1 h20).1 (Nat.lt_trans (hV.2.2.1 s.1 h20).2 (by decide))) lR_41 (rec_S hr) rfl (Nat.le_of_ble_eq_true rfl) rfl (Nat.le_of_ble_eq_true rfl) ?_
      refine ev_goto (tgt := 44) dR_faultPlace_34 (by decide) ?_
      try rw [he]
      refine ev_ret dR_faultPlace_44 rfl rfl ?_
      rw [if_pos h4]
      first | (rw [if_pos h20]; exact ⟨rfl, rfl⟩) | (rw [if_neg (by omega)]; exact ⟨rfl, rfl⟩)
  · try simp (disch := omega) only [zcond, nI_ltI, nI_leI, nI_eq, zb0, Classical.not_not, Bool.not_eq_false, Bool.not_eq_true, Nat.not_lt, Nat.not_le] at h4
    refine ev_const (v := -1) dR_faultPlace_7 (by decide) ?_
    refine ev_ret dR_faultPlace_8 rfl rfl ?_
    rw [if_neg (by rw [h4]; decide)]; exact ⟨rfl, rfl⟩
set_option maxRecDepth 100000 in
set_option maxHeartbeats 4000000 in
theorem k_fault {nT e : Nat} {s : pE} {V : Nat → Nat} (hP : M.2.1 = zP0 n b) (hn : zR n) (h1 : M.1 n 2 = nI s.1) (h2 : M.1 n 3 = nI s.2.toNat) (hs : s.1 < 2 ^ 31) (hV : Pkd M n nT V) (he : M.1 (n + 1) 1 = nI e) : Pu Lx xs (d + 2) mK_fault [.ref 0] M (if s.2 = true then (if s.1 < nT then nI (V s.1 / 2048) else nI e) else -1) := by
  unfold Pu Ct
  refine ev_al dK_fault_0 rfl (by first | assumption | rfl) ?_
  refine ev_getrP dK_fault_1 fK_16 rfl (zq (q := n) hP rfl) ?_
  refine ev_pV dK_fault_4 (c_faultPlace hP hn h1 h2 hs hV he) lK_72 (rec_R hn) rfl (Nat.le_of_ble_eq_true rfl) rfl (Nat.le_of_ble_eq_true rfl) ?_
  refine ev_ret dK_fault_7 rfl rfl ?_
  exact ⟨rfl, rfl⟩
end
