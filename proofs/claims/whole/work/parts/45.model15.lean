/- the reference: the small calls (rows laid by program) -/
theorem z0 {M : zM} {x : Int32} {a i : Nat} (h : ¬ (a = 25 ∧ i = 0)) : (zI M 25 0 x).1 a i = M.1 a i := by rw [zI_at, if_neg h]
section
variable {Lx : Nat} {xs : Nat → Int32} {d : Nat} {M : zM} {n b : Nat}
set_option maxRecDepth 100000 in
set_option maxHeartbeats 4000000 in
theorem r_thrown (hP : M.2.1 = zP0 n b) : Pu Lx xs d mM_thrown [.ref 25] M (M.1 25 0) := by
  unfold Pu Ct
  refine ev_al dM_thrown_0 rfl (by first | assumption | rfl) ?_
  refine ev_geti dM_thrown_1 fM_97 rfl ?_
  refine ev_ret dM_thrown_4 rfl rfl ?_
  exact ⟨rfl, rfl⟩
set_option maxRecDepth 100000 in
set_option maxHeartbeats 4000000 in
theorem r_length (hP : M.2.1 = zP0 n b) : Ct Lx xs d mM_length [.ref 25] M (fun q M' => q = some (M.1 25 1) ∧ M' = zI M 25 0 (nI 0)) := by
  unfold Ct
  refine ev_al dM_length_0 rfl (by first | assumption | rfl) ?_
  refine ev_const (v := nI 0) dM_length_1 (by decide) ?_
  refine ev_puti dM_length_2 fM_97 fwM_thrown rfl (vp_nar_int _) rfl ?_
  refine ev_al dM_length_5 rfl (by first | assumption | rfl) ?_
  refine ev_geti dM_length_6 fM_103 rfl ?_
  refine ev_ret dM_length_9 rfl rfl ?_
  exact ⟨congrArg some (z0 (by omega)), rfl⟩
set_option maxRecDepth 100000 in
set_option maxHeartbeats 4000000 in
theorem r_tokens (hP : M.2.1 = zP0 n b) : Ct Lx xs d mM_tokens [.ref 25] M (fun q M' => q = some (M.1 25 5) ∧ M' = zI M 25 0 (nI 0)) := by
  unfold Ct
  refine ev_al dM_tokens_0 rfl (by first | assumption | rfl) ?_
  refine ev_const (v := nI 0) dM_tokens_1 (by decide) ?_
  refine ev_puti dM_tokens_2 fM_97 fwM_thrown rfl (vp_nar_int _) rfl ?_
  refine ev_al dM_tokens_5 rfl (by first | assumption | rfl) ?_
  refine ev_geti dM_tokens_6 fM_106 rfl ?_
  refine ev_ret dM_tokens_9 rfl rfl ?_
  exact ⟨congrArg some (z0 (by omega)), rfl⟩
set_option maxRecDepth 100000 in
set_option maxHeartbeats 4000000 in
theorem r_items (hP : M.2.1 = zP0 n b) : Ct Lx xs d mM_items [.ref 25] M (fun q M' => q = some (M.1 25 14) ∧ M' = zI M 25 0 (nI 0)) := by
  unfold Ct
  refine ev_al dM_items_0 rfl (by first | assumption | rfl) ?_
  refine ev_const (v := nI 0) dM_items_1 (by decide) ?_
  refine ev_puti dM_items_2 fM_97 fwM_thrown rfl (vp_nar_int _) rfl ?_
  refine ev_al dM_items_5 rfl (by first | assumption | rfl) ?_
  refine ev_geti dM_items_6 fM_146 rfl ?_
  refine ev_ret dM_items_9 rfl rfl ?_
  exact ⟨congrArg some (z0 (by omega)), rfl⟩
set_option maxRecDepth 100000 in
set_option maxHeartbeats 4000000 in
theorem r_kept (hP : M.2.1 = zP0 n b) : Ct Lx xs d mM_kept [.ref 25] M (fun q M' => q = some (M.1 25 28) ∧ M' = zI M 25 0 (nI 0)) := by
  unfold Ct
  refine ev_al dM_kept_0 rfl (by first | assumption | rfl) ?_
  refine ev_const (v := nI 0) dM_kept_1 (by decide) ?_
  refine ev_puti dM_kept_2 fM_97 fwM_thrown rfl (vp_nar_int _) rfl ?_
  refine ev_al dM_kept_5 rfl (by first | assumption | rfl) ?_
  refine ev_geti dM_kept_6 fM_238 rfl ?_
  refine ev_ret dM_kept_9 rfl rfl ?_
  exact ⟨congrArg some (z0 (by omega)), rfl⟩
set_option maxRecDepth 100000 in
set_option maxHeartbeats 4000000 in
theorem r_fault (hP : M.2.1 = zP0 n b) : Ct Lx xs d mM_fault [.ref 25] M (fun q M' => q = some (M.1 25 29) ∧ M' = zI M 25 0 (nI 0)) := by
  unfold Ct
  refine ev_al dM_fault_0 rfl (by first | assumption | rfl) ?_
  refine ev_const (v := nI 0) dM_fault_1 (by decide) ?_
  refine ev_puti dM_fault_2 fM_97 fwM_thrown rfl (vp_nar_int _) rfl ?_
  refine ev_al dM_fault_5 rfl (by first | assumption | rfl) ?_
  refine ev_geti dM_fault_6 fM_69 rfl ?_
  refine ev_ret dM_fault_9 rfl rfl ?_
  exact ⟨congrArg some (z0 (by omega)), rfl⟩
set_option maxRecDepth 100000 in
set_option maxHeartbeats 4000000 in
theorem r_wipe (hP : M.2.1 = zP0 n b) : Ct Lx xs d mM_wipe [.ref 25] M (fun q M' => q = some (M.1 25 3) ∧ M' = zI (zI M 25 0 (nI 0)) 25 3 (nI 0)) := by
  unfold Ct
  refine ev_al dM_wipe_0 rfl (by first | assumption | rfl) ?_
  refine ev_const (v := nI 0) dM_wipe_1 (by decide) ?_
  refine ev_puti dM_wipe_2 fM_97 fwM_thrown rfl (vp_nar_int _) rfl ?_
  refine ev_al dM_wipe_5 rfl (by first | assumption | rfl) ?_
  refine ev_geti dM_wipe_6 fM_100 rfl ?_
  refine ev_is dM_wipe_9 rfl (Nat.le_of_ble_eq_true rfl) ?_
  refine ev_al dM_wipe_10 rfl (by first | assumption | rfl) ?_
  refine ev_const (v := nI 0) dM_wipe_11 (by decide) ?_
  refine ev_puti dM_wipe_12 fM_100 fwM_typed rfl (vp_nar_int _) rfl ?_
  refine ev_il dM_wipe_15 rfl (by first | assumption | rfl) ?_
  refine ev_ret dM_wipe_16 rfl rfl ?_
  exact ⟨congrArg some (z0 (by omega)), rfl⟩
set_option maxRecDepth 100000 in
set_option maxHeartbeats 4000000 in
theorem r_type {c w : Nat} (hP : M.2.1 = zP0 n b) (hc : c < 65536) (hw : M.1 25 3 = nI w) (hw2 : w ≤ 40) : Ct Lx xs d mM_type [.ref 25, .int (nI c)] M (fun q M' => (q, M') = if tyOk c = true ∧ w < 40 then (some (nI 1), zI (zI (zI M 25 0 (nI 0)) 27 w (nI c)) 25 3 (nI (w + 1))) else (some (nI 0), zI M 25 0 (nI 0))) := by
  unfold Ct
  refine ev_al dM_type_0 rfl (by first | assumption | rfl) ?_
  refine ev_const (v := nI 0) dM_type_1 (by decide) ?_
  refine ev_puti dM_type_2 fM_97 fwM_thrown rfl (vp_nar_int _) rfl ?_
  refine ev_il dM_type_5 rfl (by first | assumption | rfl) ?_
  refine ev_const (v := nI 10) dM_type_6 (by decide) ?_
  refine ev_icmp (tgt := 23) dM_type_8 (by decide) (fun h8 => ?_) (fun h8 => ?_)
  · try simp (disch := omega) only [zcond, nI_ltI, nI_leI, nI_eq, zb0, Classical.not_not, Bool.not_eq_false, Bool.not_eq_true, Nat.not_lt, Nat.not_le] at h8
    refine ev_al dM_type_23 rfl (by first | assumption | rfl) ?_
    refine ev_geti dM_type_24 fM_100 rfl ?_
    rw [(z0 (by omega)).trans hw]
    refine ev_const (v := nI 40) dM_type_27 (by decide) ?_
    refine ev_icmp (tgt := 34) dM_type_29 (by decide) (fun h29 => ?_) (fun h29 => ?_)
    · try simp (disch := omega) only [zcond, nI_ltI, nI_leI, nI_eq, zb0, Classical.not_not, Bool.not_eq_false, Bool.not_eq_true, Nat.not_lt, Nat.not_le] at h29
      refine ev_al dM_type_34 rfl (by first | assumption | rfl) ?_
      refine ev_getrP dM_type_35 fM_13 rfl (zq (q := 27) hP rfl) ?_
      refine ev_al dM_type_38 rfl (by first | assumption | rfl) ?_
      refine ev_geti dM_type_39 fM_100 rfl ?_
      rw [(z0 (by omega)).trans hw]
      refine ev_il dM_type_42 rfl (by first | assumption | rfl) ?_
      refine ev_castN dM_type_43 rfl (by omega) (by omega) ?_
      refine ev_al dM_type_44 rfl (by first | assumption | rfl) ?_
      refine ev_stk dM_type_45 rfl ?_
      refine ev_geti dM_type_46 fM_100 rfl ?_
      rw [show (zI (zI M 25 0 (nI 0)) 27 w (nI c)).1 25 3 = nI w from (zI_o (by omega)).trans ((z0 (by omega)).trans hw)]
      refine ev_const (v := nI 1) dM_type_49 (by decide) ?_
      first | with_reducible refine ev_addN dM_type_50 ?_ | refine ev_add dM_type_50 ?_
      refine ev_puti dM_type_51 fM_100 fwM_typed rfl (vp_nar_int _) rfl ?_
      refine ev_const (v := nI 1) dM_type_54 (by decide) ?_
      refine ev_ret dM_type_55 rfl rfl ?_
      rw [if_pos (by simp [tyOk]; omega)]
    · try simp (disch := omega) only [zcond, nI_ltI, nI_leI, nI_eq, zb0, Classical.not_not, Bool.not_eq_false, Bool.not_eq_true, Nat.not_lt, Nat.not_le] at h29
      refine ev_const (v := nI 0) dM_type_32 (by decide) ?_
      refine ev_ret dM_type_33 rfl rfl ?_
      rw [if_neg (by simp [tyOk]; omega)]
  · try simp (disch := omega) only [zcond, nI_ltI, nI_leI, nI_eq, zb0, Classical.not_not, Bool.not_eq_false, Bool.not_eq_true, Nat.not_lt, Nat.not_le] at h8
    refine ev_il dM_type_11 rfl (by first | assumption | rfl) ?_
    refine ev_const (v := nI 32) dM_type_12 (by decide) ?_
    refine ev_icmp (tgt := 32) dM_type_14 (by decide) (fun h14 => ?_) (fun h14 => ?_)
    · try simp (disch := omega) only [zcond, nI_ltI, nI_leI, nI_eq, zb0, Classical.not_not, Bool.not_eq_false, Bool.not_eq_true, Nat.not_lt, Nat.not_le] at h14
      refine ev_const (v := nI 0) dM_type_32 (by decide) ?_
      refine ev_ret dM_type_33 rfl rfl ?_
      rw [if_neg (by simp [tyOk]; omega)]
    · try simp (disch := omega) only [zcond, nI_ltI, nI_leI, nI_eq, zb0, Classical.not_not, Bool.not_eq_false, Bool.not_eq_true, Nat.not_lt, Nat.not_le] at h14
      refine ev_il dM_type_17 rfl (by first | assumption | rfl) ?_
      refine ev_const (v := nI 126) dM_type_18 (by decide) ?_
      refine ev_icmp (tgt := 32) dM_type_20 (by decide) (fun h20 => ?_) (fun h20 => ?_)
      · try simp (disch := omega) only [zcond, nI_ltI, nI_leI, nI_eq, zb0, Classical.not_not, Bool.not_eq_false, Bool.not_eq_true, Nat.not_lt, Nat.not_le] at h20
        refine ev_const (v := nI 0) dM_type_32 (by decide) ?_
        refine ev_ret dM_type_33 rfl rfl ?_
        rw [if_neg (by simp [tyOk]; omega)]
      · try simp (disch := omega) only [zcond, nI_ltI, nI_leI, nI_eq, zb0, Classical.not_not, Bool.not_eq_false, Bool.not_eq_true, Nat.not_lt, Nat.not_le] at h20
        refine ev_al dM_type_23 rfl (by first | assumption | rfl) ?_
        refine ev_geti dM_type_24 fM_100 rfl ?_
        rw [(z0 (by omega)).trans hw]
        refine ev_const (v := nI 40) dM_type_27 (by decide) ?_
        refine ev_icmp (tgt := 34) dM_type_29 (by decide) (fun h29 => ?_) (fun h29 => ?_)
        · try simp (disch := omega) only [zcond, nI_ltI, nI_leI, nI_eq, zb0, Classical.not_not, Bool.not_eq_false, Bool.not_eq_true, Nat.not_lt, Nat.not_le] at h29
          refine ev_al dM_type_34 rfl (by first | assumption | rfl) ?_
          refine ev_getrP dM_type_35 fM_13 rfl (zq (q := 27) hP rfl) ?_
          refine ev_al dM_type_38 rfl (by first | assumption | rfl) ?_
          refine ev_geti dM_type_39 fM_100 rfl ?_
          rw [(z0 (by omega)).trans hw]
          refine ev_il dM_type_42 rfl (by first | assumption | rfl) ?_
          refine ev_castN dM_type_43 rfl (by omega) (by omega) ?_
          refine ev_al dM_type_44 rfl (by first | assumption | rfl) ?_
          refine ev_stk dM_type_45 rfl ?_
          refine ev_geti dM_type_46 fM_100 rfl ?_
          rw [show (zI (zI M 25 0 (nI 0)) 27 w (nI c)).1 25 3 = nI w from (zI_o (by omega)).trans ((z0 (by omega)).trans hw)]
          refine ev_const (v := nI 1) dM_type_49 (by decide) ?_
          first | with_reducible refine ev_addN dM_type_50 ?_ | refine ev_add dM_type_50 ?_
          refine ev_puti dM_type_51 fM_100 fwM_typed rfl (vp_nar_int _) rfl ?_
          refine ev_const (v := nI 1) dM_type_54 (by decide) ?_
          refine ev_ret dM_type_55 rfl rfl ?_
          rw [if_pos (by simp [tyOk]; omega)]
        · try simp (disch := omega) only [zcond, nI_ltI, nI_leI, nI_eq, zb0, Classical.not_not, Bool.not_eq_false, Bool.not_eq_true, Nat.not_lt, Nat.not_le] at h29
          refine ev_const (v := nI 0) dM_type_32 (by decide) ?_
          refine ev_ret dM_type_33 rfl rfl ?_
          rw [if_neg (by simp [tyOk]; omega)]
set_option maxRecDepth 100000 in
set_option maxHeartbeats 4000000 in
theorem r_at_in {e k c : Nat} (hP : M.2.1 = zP0 n b) (he : M.1 25 1 = nI e) (he2 : e ≤ 160) (hk : k < e) (hc : M.1 26 k = nI c) (hc2 : c < 65536) : Ct Lx xs d mM_at [.ref 25, .int (nI k)] M (fun q M' => q = some (nI c) ∧ M' = zI M 25 0 (nI 0)) := by
  unfold Ct
  refine ev_al dM_at_0 rfl (by first | assumption | rfl) ?_
  refine ev_const (v := nI 0) dM_at_1 (by decide) ?_
  refine ev_puti dM_at_2 fM_97 fwM_thrown rfl (vp_nar_int _) rfl ?_
  refine ev_il dM_at_5 rfl (by first | assumption | rfl) ?_
  refine ev_if0 (tgt := 26) dM_at_6 (by decide) (fun h6 => ?_) (fun h6 => ?_)
  · first | omega | (simp (disch := omega) only [zcond, nI_ltI, nI_leI, nI_eq] at h6; omega)
  · try simp (disch := omega) only [zcond, nI_ltI, nI_leI, nI_eq, zb0, Classical.not_not, Bool.not_eq_false, Bool.not_eq_true, Nat.not_lt, Nat.not_le] at h6
    refine ev_il dM_at_9 rfl (by first | assumption | rfl) ?_
    refine ev_al dM_at_10 rfl (by first | assumption | rfl) ?_
    refine ev_geti dM_at_11 fM_103 rfl ?_
    rw [(z0 (by omega)).trans he]
    refine ev_icmp (tgt := 26) dM_at_14 (by decide) (fun h14 => ?_) (fun h14 => ?_)
    · first | omega | (simp (disch := omega) only [zcond, nI_ltI, nI_leI, nI_eq] at h14; omega)
    · try simp (disch := omega) only [zcond, nI_ltI, nI_leI, nI_eq, zb0, Classical.not_not, Bool.not_eq_false, Bool.not_eq_true, Nat.not_lt, Nat.not_le] at h14
      refine ev_al dM_at_17 rfl (by first | assumption | rfl) ?_
      refine ev_getrP dM_at_18 fM_7 rfl (zq (q := 26) hP rfl) ?_
      refine ev_il dM_at_21 rfl (by first | assumption | rfl) ?_
      refine ev_aldN dM_at_22 rfl rfl (by omega) ?_
      rw [(z0 (by omega)).trans hc]
      refine ev_goto (tgt := 27) dM_at_23 (by decide) ?_
      refine ev_ret dM_at_27 rfl (zchr (by omega)) ?_
      exact ⟨rfl, rfl⟩
set_option maxRecDepth 100000 in
set_option maxHeartbeats 4000000 in
theorem r_at_out {e : Nat} {x : Int32} (hP : M.2.1 = zP0 n b) (he : M.1 25 1 = nI e) (h : x < nI 0 ∨ nI e ≤ x) : Ct Lx xs d mM_at [.ref 25, .int x] M (fun q M' => q = some (nI 0) ∧ M' = zI M 25 0 (nI 0)) := by
  unfold Ct
  refine ev_al dM_at_0 rfl (by first | assumption | rfl) ?_
  refine ev_const (v := nI 0) dM_at_1 (by decide) ?_
  refine ev_puti dM_at_2 fM_97 fwM_thrown rfl (vp_nar_int _) rfl ?_
  refine ev_il dM_at_5 rfl (by first | assumption | rfl) ?_
  refine ev_if0 (tgt := 26) dM_at_6 (by decide) (fun h6 => ?_) (fun h6 => ?_)
  · refine ev_const (v := nI 0) dM_at_26 (by decide) ?_
    refine ev_ret dM_at_27 rfl rfl ?_
    exact ⟨rfl, rfl⟩
  · refine ev_il dM_at_9 rfl (by first | assumption | rfl) ?_
    refine ev_al dM_at_10 rfl (by first | assumption | rfl) ?_
    refine ev_geti dM_at_11 fM_103 rfl ?_
    rw [(z0 (by omega)).trans he]
    refine ev_icmp (tgt := 26) dM_at_14 (by decide) (fun h14 => ?_) (fun h14 => ?_)
    · refine ev_const (v := nI 0) dM_at_26 (by decide) ?_
      refine ev_ret dM_at_27 rfl rfl ?_
      exact ⟨rfl, rfl⟩
    · exact (h.elim h6 h14).elim
set_option maxRecDepth 100000 in
set_option maxHeartbeats 4000000 in
theorem r_isItem_in {c k : Nat} (hP : M.2.1 = zP0 n b) (hc : M.1 25 14 = nI c) (hc2 : c ≤ 160) (hk : k < c) : Pu Lx xs d mM_isItem [.ref 25, .int (nI k)] M (nI 1) := by
  unfold Pu Ct
  refine ev_il dM_isItem_0 rfl (by first | assumption | rfl) ?_
  refine ev_if0 (tgt := 16) dM_isItem_1 (by decide) (fun h1 => ?_) (fun h1 => ?_)
  · first | omega | (simp (disch := omega) only [zcond, nI_ltI, nI_leI, nI_eq] at h1; omega)
  · try simp (disch := omega) only [zcond, nI_ltI, nI_leI, nI_eq, zb0, Classical.not_not, Bool.not_eq_false, Bool.not_eq_true, Nat.not_lt, Nat.not_le] at h1
    refine ev_il dM_isItem_4 rfl (by first | assumption | rfl) ?_
    refine ev_al dM_isItem_5 rfl (by first | assumption | rfl) ?_
    refine ev_geti dM_isItem_6 fM_146 rfl ?_
    rw [hc]
    refine ev_icmp (tgt := 16) dM_isItem_9 (by decide) (fun h9 => ?_) (fun h9 => ?_)
    · first | omega | (simp (disch := omega) only [zcond, nI_ltI, nI_leI, nI_eq] at h9; omega)
    · try simp (disch := omega) only [zcond, nI_ltI, nI_leI, nI_eq, zb0, Classical.not_not, Bool.not_eq_false, Bool.not_eq_true, Nat.not_lt, Nat.not_le] at h9
      refine ev_const (v := nI 1) dM_isItem_12 (by decide) ?_
      refine ev_goto (tgt := 17) dM_isItem_13 (by decide) ?_
      refine ev_ret dM_isItem_17 rfl rfl ?_
      exact ⟨rfl, rfl⟩
set_option maxRecDepth 100000 in
set_option maxHeartbeats 4000000 in
theorem r_isItem_out {c : Nat} {x : Int32} (hP : M.2.1 = zP0 n b) (hc : M.1 25 14 = nI c) (h : x < nI 0 ∨ nI c ≤ x) : Pu Lx xs d mM_isItem [.ref 25, .int x] M (nI 0) := by
  unfold Pu Ct
  refine ev_il dM_isItem_0 rfl (by first | assumption | rfl) ?_
  refine ev_if0 (tgt := 16) dM_isItem_1 (by decide) (fun h1 => ?_) (fun h1 => ?_)
  · refine ev_const (v := nI 0) dM_isItem_16 (by decide) ?_
    refine ev_ret dM_isItem_17 rfl rfl ?_
    exact ⟨rfl, rfl⟩
  · refine ev_il dM_isItem_4 rfl (by first | assumption | rfl) ?_
    refine ev_al dM_isItem_5 rfl (by first | assumption | rfl) ?_
    refine ev_geti dM_isItem_6 fM_146 rfl ?_
    rw [hc]
    refine ev_icmp (tgt := 16) dM_isItem_9 (by decide) (fun h9 => ?_) (fun h9 => ?_)
    · refine ev_const (v := nI 0) dM_isItem_16 (by decide) ?_
      refine ev_ret dM_isItem_17 rfl rfl ?_
      exact ⟨rfl, rfl⟩
    · exact (h.elim h1 h9).elim
set_option maxRecDepth 100000 in
set_option maxHeartbeats 4000000 in
theorem r_number_in {c k : Nat} (hP : M.2.1 = zP0 n b) (hc : M.1 25 14 = nI c) (hc2 : c ≤ 160) (hk : k < c) : Ct Lx xs (d + 1) mM_number [.ref 25, .int (nI k)] M (fun q M' => q = some (M.1 40 k) ∧ M' = zI M 25 0 (nI 0)) := by
  unfold Ct
  refine ev_al dM_number_0 rfl (by first | assumption | rfl) ?_
  refine ev_const (v := nI 0) dM_number_1 (by decide) ?_
  refine ev_puti dM_number_2 fM_97 fwM_thrown rfl (vp_nar_int _) rfl ?_
  refine ev_al dM_number_5 rfl (by first | assumption | rfl) ?_
  refine ev_il dM_number_6 rfl (by first | assumption | rfl) ?_
  refine ev_pV dM_number_7 (r_isItem_in (M := zI M 25 0 (nI 0)) hP ((z0 (by omega)).trans hc) hc2 hk) lM_268 rec_M rfl (Nat.le_of_ble_eq_true rfl) rfl (Nat.le_of_ble_eq_true rfl) ?_
  refine ev_if0 (tgt := 22) dM_number_10 (by decide) (fun h10 => ?_) (fun h10 => ?_)
  · exact absurd h10 (show ¬ nI 1 = nI 0 by decide)
  · refine ev_al dM_number_13 rfl (by first | assumption | rfl) ?_
    refine ev_getrP dM_number_14 fM_54 rfl (zq (q := 40) hP rfl) ?_
    refine ev_il dM_number_17 rfl (by first | assumption | rfl) ?_
    refine ev_aldN dM_number_18 rfl rfl (by omega) ?_
    refine ev_goto (tgt := 23) dM_number_19 (by decide) ?_
    refine ev_ret dM_number_23 rfl rfl ?_
    exact ⟨congrArg some (z0 (by omega)), rfl⟩
set_option maxRecDepth 100000 in
set_option maxHeartbeats 4000000 in
theorem r_number_out {c : Nat} {x : Int32} (hP : M.2.1 = zP0 n b) (hc : M.1 25 14 = nI c) (h : x < nI 0 ∨ nI c ≤ x) : Ct Lx xs (d + 1) mM_number [.ref 25, .int x] M (fun q M' => q = some (-1) ∧ M' = zI M 25 0 (nI 0)) := by
  unfold Ct
  refine ev_al dM_number_0 rfl (by first | assumption | rfl) ?_
  refine ev_const (v := nI 0) dM_number_1 (by decide) ?_
  refine ev_puti dM_number_2 fM_97 fwM_thrown rfl (vp_nar_int _) rfl ?_
  refine ev_al dM_number_5 rfl (by first | assumption | rfl) ?_
  refine ev_il dM_number_6 rfl (by first | assumption | rfl) ?_
  refine ev_pV dM_number_7 (r_isItem_out (M := zI M 25 0 (nI 0)) hP ((z0 (by omega)).trans hc) h) lM_268 rec_M rfl (Nat.le_of_ble_eq_true rfl) rfl (Nat.le_of_ble_eq_true rfl) ?_
  refine ev_if0 (tgt := 22) dM_number_10 (by decide) (fun h10 => ?_) (fun h10 => ?_)
  · refine ev_const (v := -1) dM_number_22 (by decide) ?_
    refine ev_ret dM_number_23 rfl rfl ?_
    exact ⟨rfl, rfl⟩
  · exact (h10 rfl).elim
set_option maxRecDepth 100000 in
set_option maxHeartbeats 4000000 in
theorem r_level_in {c k : Nat} (hP : M.2.1 = zP0 n b) (hc : M.1 25 14 = nI c) (hc2 : c ≤ 160) (hk : k < c) : Ct Lx xs (d + 1) mM_level [.ref 25, .int (nI k)] M (fun q M' => q = some (M.1 37 k) ∧ M' = zI M 25 0 (nI 0)) := by
  unfold Ct
  refine ev_al dM_level_0 rfl (by first | assumption | rfl) ?_
  refine ev_const (v := nI 0) dM_level_1 (by decide) ?_
  refine ev_puti dM_level_2 fM_97 fwM_thrown rfl (vp_nar_int _) rfl ?_
  refine ev_al dM_level_5 rfl (by first | assumption | rfl) ?_
  refine ev_il dM_level_6 rfl (by first | assumption | rfl) ?_
  refine ev_pV dM_level_7 (r_isItem_in (M := zI M 25 0 (nI 0)) hP ((z0 (by omega)).trans hc) hc2 hk) lM_268 rec_M rfl (Nat.le_of_ble_eq_true rfl) rfl (Nat.le_of_ble_eq_true rfl) ?_
  refine ev_if0 (tgt := 22) dM_level_10 (by decide) (fun h10 => ?_) (fun h10 => ?_)
  · exact absurd h10 (show ¬ nI 1 = nI 0 by decide)
  · refine ev_al dM_level_13 rfl (by first | assumption | rfl) ?_
    refine ev_getrP dM_level_14 fM_44 rfl (zq (q := 37) hP rfl) ?_
    refine ev_il dM_level_17 rfl (by first | assumption | rfl) ?_
    refine ev_aldN dM_level_18 rfl rfl (by omega) ?_
    refine ev_goto (tgt := 23) dM_level_19 (by decide) ?_
    refine ev_ret dM_level_23 rfl rfl ?_
    exact ⟨congrArg some (z0 (by omega)), rfl⟩
set_option maxRecDepth 100000 in
set_option maxHeartbeats 4000000 in
theorem r_level_out {c : Nat} {x : Int32} (hP : M.2.1 = zP0 n b) (hc : M.1 25 14 = nI c) (h : x < nI 0 ∨ nI c ≤ x) : Ct Lx xs (d + 1) mM_level [.ref 25, .int x] M (fun q M' => q = some (-1) ∧ M' = zI M 25 0 (nI 0)) := by
  unfold Ct
  refine ev_al dM_level_0 rfl (by first | assumption | rfl) ?_
  refine ev_const (v := nI 0) dM_level_1 (by decide) ?_
  refine ev_puti dM_level_2 fM_97 fwM_thrown rfl (vp_nar_int _) rfl ?_
  refine ev_al dM_level_5 rfl (by first | assumption | rfl) ?_
  refine ev_il dM_level_6 rfl (by first | assumption | rfl) ?_
  refine ev_pV dM_level_7 (r_isItem_out (M := zI M 25 0 (nI 0)) hP ((z0 (by omega)).trans hc) h) lM_268 rec_M rfl (Nat.le_of_ble_eq_true rfl) rfl (Nat.le_of_ble_eq_true rfl) ?_
  refine ev_if0 (tgt := 22) dM_level_10 (by decide) (fun h10 => ?_) (fun h10 => ?_)
  · refine ev_const (v := -1) dM_level_22 (by decide) ?_
    refine ev_ret dM_level_23 rfl rfl ?_
    exact ⟨rfl, rfl⟩
  · exact (h10 rfl).elim
set_option maxRecDepth 100000 in
set_option maxHeartbeats 4000000 in
theorem r_token_in {c k p m s : Nat} (hP : M.2.1 = zP0 n b) (hc : M.1 25 5 = nI c) (hc2 : c ≤ 160) (hk : k < c) (e1 : M.1 28 k = nI p) (e2 : M.1 29 k = nI m) (e3 : M.1 30 k = nI s) : Ct Lx xs d mM_token [.ref 25, .int (nI k)] M (fun q M' => q = some (nI (p * 2048 + m * 8 + s)) ∧ M' = zI M 25 0 (nI 0)) := by
  unfold Ct
  refine ev_al dM_token_0 rfl (by first | assumption | rfl) ?_
  refine ev_il dM_token_1 rfl (by first | assumption | rfl) ?_
  refine ev_if0 (tgt := 13) dM_token_2 (by decide) (fun h2 => ?_) (fun h2 => ?_)
  · first | omega | (simp (disch := omega) only [zcond, nI_ltI, nI_leI, nI_eq] at h2; omega)
  · try simp (disch := omega) only [zcond, nI_ltI, nI_leI, nI_eq, zb0, Classical.not_not, Bool.not_eq_false, Bool.not_eq_true, Nat.not_lt, Nat.not_le] at h2
    refine ev_il dM_token_5 rfl (by first | assumption | rfl) ?_
    refine ev_al dM_token_6 rfl (by first | assumption | rfl) ?_
    refine ev_geti dM_token_7 fM_106 rfl ?_
    rw [hc]
    refine ev_icmp (tgt := 17) dM_token_10 (by decide) (fun h10 => ?_) (fun h10 => ?_)
    · try simp (disch := omega) only [zcond, nI_ltI, nI_leI, nI_eq, zb0, Classical.not_not, Bool.not_eq_false, Bool.not_eq_true, Nat.not_lt, Nat.not_le] at h10
      refine ev_const (v := nI 0) dM_token_17 (by decide) ?_
      refine ev_puti dM_token_18 fM_97 fwM_thrown rfl (vp_nar_int _) rfl ?_
      refine ev_al dM_token_21 rfl (by first | assumption | rfl) ?_
      refine ev_geti dM_token_22 fM_97 rfl ?_
      rw [zI_s]
      refine ev_if0 (tgt := 32) dM_token_25 (by decide) (fun h25 => ?_) (fun h25 => ?_)
      · simp only [zcond] at h25
        refine ev_al dM_token_32 rfl (by first | assumption | rfl) ?_
        refine ev_getrP dM_token_33 fM_16 rfl (zq (q := 28) hP rfl) ?_
        refine ev_il dM_token_36 rfl (by first | assumption | rfl) ?_
        refine ev_aldN dM_token_37 rfl rfl (by omega) ?_
        rw [(z0 (by omega)).trans e1]
        refine ev_const (v := nI 2048) dM_token_38 (by decide) ?_
        first | with_reducible refine ev_mulN dM_token_41 ?_ | refine ev_mul dM_token_41 ?_
        refine ev_al dM_token_42 rfl (by first | assumption | rfl) ?_
        refine ev_getrP dM_token_43 fM_20 rfl (zq (q := 29) hP rfl) ?_
        refine ev_il dM_token_46 rfl (by first | assumption | rfl) ?_
        refine ev_aldN dM_token_47 rfl rfl (by omega) ?_
        rw [(z0 (by omega)).trans e2]
        refine ev_const (v := nI 8) dM_token_48 (by decide) ?_
        first | with_reducible refine ev_mulN dM_token_50 ?_ | refine ev_mul dM_token_50 ?_
        first | with_reducible refine ev_addN dM_token_51 ?_ | refine ev_add dM_token_51 ?_
        refine ev_al dM_token_52 rfl (by first | assumption | rfl) ?_
        refine ev_getrP dM_token_53 fM_23 rfl (zq (q := 30) hP rfl) ?_
        refine ev_il dM_token_56 rfl (by first | assumption | rfl) ?_
        refine ev_aldN dM_token_57 rfl rfl (by omega) ?_
        rw [(z0 (by omega)).trans e3]
        first | with_reducible refine ev_addN dM_token_58 ?_ | refine ev_add dM_token_58 ?_
        refine ev_ret dM_token_59 rfl rfl ?_
        exact ⟨rfl, rfl⟩
      · exact absurd (show nI 0 ≤ nI 0 by decide) h25
    · first | omega | (simp (disch := omega) only [zcond, nI_ltI, nI_leI, nI_eq] at h10; omega)
set_option maxRecDepth 100000 in
set_option maxHeartbeats 4000000 in
theorem r_token_out {c : Nat} {x : Int32} (hP : M.2.1 = zP0 n b) (hc : M.1 25 5 = nI c) (h : x < nI 0 ∨ nI c ≤ x) : Ct Lx xs d mM_token [.ref 25, .int x] M (fun q M' => q = some (nI 0) ∧ M' = zI M 25 0 (nI 1)) := by
  unfold Ct
  refine ev_al dM_token_0 rfl (by first | assumption | rfl) ?_
  refine ev_il dM_token_1 rfl (by first | assumption | rfl) ?_
  refine ev_if0 (tgt := 13) dM_token_2 (by decide) (fun h2 => ?_) (fun h2 => ?_)
  · refine ev_const (v := nI 1) dM_token_13 (by decide) ?_
    refine ev_goto (tgt := 18) dM_token_14 (by decide) ?_
    refine ev_puti dM_token_18 fM_97 fwM_thrown rfl (vp_nar_int _) rfl ?_
    refine ev_al dM_token_21 rfl (by first | assumption | rfl) ?_
    refine ev_geti dM_token_22 fM_97 rfl ?_
    rw [zI_s]
    refine ev_if0 (tgt := 32) dM_token_25 (by decide) (fun h25 => ?_) (fun h25 => ?_)
    · exact absurd h25 (show ¬ nI 1 ≤ nI 0 by decide)
    · refine ev_const (v := nI 0) dM_token_28 (by decide) ?_
      refine ev_goto (tgt := 59) dM_token_29 (by decide) ?_
      refine ev_ret dM_token_59 rfl rfl ?_
      exact ⟨rfl, rfl⟩
  · refine ev_il dM_token_5 rfl (by first | assumption | rfl) ?_
    refine ev_al dM_token_6 rfl (by first | assumption | rfl) ?_
    refine ev_geti dM_token_7 fM_106 rfl ?_
    rw [hc]
    refine ev_icmp (tgt := 17) dM_token_10 (by decide) (fun h10 => ?_) (fun h10 => ?_)
    · exact (h.elim h2 (Int32.not_le.mpr h10)).elim
    · refine ev_const (v := nI 1) dM_token_13 (by decide) ?_
      refine ev_goto (tgt := 18) dM_token_14 (by decide) ?_
      refine ev_puti dM_token_18 fM_97 fwM_thrown rfl (vp_nar_int _) rfl ?_
      refine ev_al dM_token_21 rfl (by first | assumption | rfl) ?_
      refine ev_geti dM_token_22 fM_97 rfl ?_
      rw [zI_s]
      refine ev_if0 (tgt := 32) dM_token_25 (by decide) (fun h25 => ?_) (fun h25 => ?_)
      · exact absurd h25 (show ¬ nI 1 ≤ nI 0 by decide)
      · refine ev_const (v := nI 0) dM_token_28 (by decide) ?_
        refine ev_goto (tgt := 59) dM_token_29 (by decide) ?_
        refine ev_ret dM_token_59 rfl rfl ?_
        exact ⟨rfl, rfl⟩
set_option maxRecDepth 100000 in
set_option maxHeartbeats 4000000 in
theorem r_begin_out {c : Nat} {x : Int32} (hP : M.2.1 = zP0 n b) (hc : M.1 25 14 = nI c) (h : x < nI 0 ∨ nI c ≤ x) : Ct Lx xs (d + 1) mM_begin [.ref 25, .int x] M (fun q M' => q = some (nI 0) ∧ M' = zI M 25 0 (nI 1)) := by
  unfold Ct
  refine ev_al dM_begin_0 rfl (by first | assumption | rfl) ?_
  refine ev_al dM_begin_1 rfl (by first | assumption | rfl) ?_
  refine ev_il dM_begin_2 rfl (by first | assumption | rfl) ?_
  refine ev_pV dM_begin_3 (r_isItem_out hP hc h) lM_268 rec_M rfl (Nat.le_of_ble_eq_true rfl) rfl (Nat.le_of_ble_eq_true rfl) ?_
  refine ev_if0 (tgt := 13) dM_begin_6 (by decide) (fun h6 => ?_) (fun h6 => ?_)
  · refine ev_const (v := nI 1) dM_begin_13 (by decide) ?_
    refine ev_puti dM_begin_14 fM_97 fwM_thrown rfl (vp_nar_int _) rfl ?_
    refine ev_al dM_begin_17 rfl (by first | assumption | rfl) ?_
    refine ev_geti dM_begin_18 fM_97 rfl ?_
    rw [zI_s]
    refine ev_if0 (tgt := 28) dM_begin_21 (by decide) (fun h21 => ?_) (fun h21 => ?_)
    · exact absurd h21 (show ¬ nI 1 ≤ nI 0 by decide)
    · refine ev_const (v := nI 0) dM_begin_24 (by decide) ?_
      refine ev_goto (tgt := 39) dM_begin_25 (by decide) ?_
      refine ev_ret dM_begin_39 rfl rfl ?_
      exact ⟨rfl, rfl⟩
  · exact (h6 rfl).elim
set_option maxRecDepth 100000 in
set_option maxHeartbeats 4000000 in
theorem r_begin_in {c k : Nat} (hP : M.2.1 = zP0 n b) (hc : M.1 25 14 = nI c) (hc2 : c ≤ 160) (hk : k < c) {a v : Nat} (ha : M.1 35 k = nI a) (ha2 : a < 160) (hv : M.1 28 a = nI v) : Ct Lx xs (d + 1) mM_begin [.ref 25, .int (nI k)] M (fun q M' => q = some (nI v) ∧ M' = zI M 25 0 (nI 0)) := by
  unfold Ct
  refine ev_al dM_begin_0 rfl (by first | assumption | rfl) ?_
  refine ev_al dM_begin_1 rfl (by first | assumption | rfl) ?_
  refine ev_il dM_begin_2 rfl (by first | assumption | rfl) ?_
  refine ev_pV dM_begin_3 (r_isItem_in hP hc hc2 hk) lM_268 rec_M rfl (Nat.le_of_ble_eq_true rfl) rfl (Nat.le_of_ble_eq_true rfl) ?_
  refine ev_if0 (tgt := 13) dM_begin_6 (by decide) (fun h6 => ?_) (fun h6 => ?_)
  · exact absurd h6 (show ¬ nI 1 = nI 0 by decide)
  · refine ev_const (v := nI 0) dM_begin_9 (by decide) ?_
    refine ev_goto (tgt := 14) dM_begin_10 (by decide) ?_
    refine ev_puti dM_begin_14 fM_97 fwM_thrown rfl (vp_nar_int _) rfl ?_
    refine ev_al dM_begin_17 rfl (by first | assumption | rfl) ?_
    refine ev_geti dM_begin_18 fM_97 rfl ?_
    rw [zI_s]
    refine ev_if0 (tgt := 28) dM_begin_21 (by decide) (fun h21 => ?_) (fun h21 => ?_)
    · refine ev_al dM_begin_28 rfl (by first | assumption | rfl) ?_
      refine ev_getrP dM_begin_29 fM_16 rfl (zq (q := 28) hP rfl) ?_
      refine ev_al dM_begin_32 rfl (by first | assumption | rfl) ?_
      refine ev_getrP dM_begin_33 fM_38 rfl (zq (q := 35) hP rfl) ?_
      refine ev_il dM_begin_36 rfl (by first | assumption | rfl) ?_
      refine ev_aldN dM_begin_37 rfl rfl (by omega) ?_
      rw [(z0 (by omega)).trans ha]
      refine ev_aldN dM_begin_38 rfl rfl (by omega) ?_
      rw [(z0 (by omega)).trans hv]
      refine ev_ret dM_begin_39 rfl rfl ?_
      exact ⟨rfl, rfl⟩
    · exact absurd (show nI 0 ≤ nI 0 by decide) h21
set_option maxRecDepth 100000 in
set_option maxHeartbeats 4000000 in
theorem r_end_out {c : Nat} {x : Int32} (hP : M.2.1 = zP0 n b) (hc : M.1 25 14 = nI c) (h : x < nI 0 ∨ nI c ≤ x) : Ct Lx xs (d + 1) mM_end [.ref 25, .int x] M (fun q M' => q = some (nI 0) ∧ M' = zI M 25 0 (nI 1)) := by
  unfold Ct
  refine ev_al dM_end_0 rfl (by first | assumption | rfl) ?_
  refine ev_al dM_end_1 rfl (by first | assumption | rfl) ?_
  refine ev_il dM_end_2 rfl (by first | assumption | rfl) ?_
  refine ev_pV dM_end_3 (r_isItem_out hP hc h) lM_268 rec_M rfl (Nat.le_of_ble_eq_true rfl) rfl (Nat.le_of_ble_eq_true rfl) ?_
  refine ev_if0 (tgt := 13) dM_end_6 (by decide) (fun h6 => ?_) (fun h6 => ?_)
  · refine ev_const (v := nI 1) dM_end_13 (by decide) ?_
    refine ev_puti dM_end_14 fM_97 fwM_thrown rfl (vp_nar_int _) rfl ?_
    refine ev_al dM_end_17 rfl (by first | assumption | rfl) ?_
    refine ev_geti dM_end_18 fM_97 rfl ?_
    rw [zI_s]
    refine ev_if0 (tgt := 28) dM_end_21 (by decide) (fun h21 => ?_) (fun h21 => ?_)
    · exact absurd h21 (show ¬ nI 1 ≤ nI 0 by decide)
    · refine ev_const (v := nI 0) dM_end_24 (by decide) ?_
      refine ev_goto (tgt := 51) dM_end_25 (by decide) ?_
      refine ev_ret dM_end_51 rfl rfl ?_
      exact ⟨rfl, rfl⟩
  · exact (h6 rfl).elim
set_option maxRecDepth 100000 in
set_option maxHeartbeats 4000000 in
theorem r_end_in {c k : Nat} (hP : M.2.1 = zP0 n b) (hc : M.1 25 14 = nI c) (hc2 : c ≤ 160) (hk : k < c) {a v m : Nat} (ha : M.1 36 k = nI a) (ha2 : a < 160) (hv : M.1 28 a = nI v) (hm : M.1 29 a = nI m) : Ct Lx xs (d + 1) mM_end [.ref 25, .int (nI k)] M (fun q M' => q = some (nI (v + m)) ∧ M' = zI M 25 0 (nI 0)) := by
  unfold Ct
  refine ev_al dM_end_0 rfl (by first | assumption | rfl) ?_
  refine ev_al dM_end_1 rfl (by first | assumption | rfl) ?_
  refine ev_il dM_end_2 rfl (by first | assumption | rfl) ?_
  refine ev_pV dM_end_3 (r_isItem_in hP hc hc2 hk) lM_268 rec_M rfl (Nat.le_of_ble_eq_true rfl) rfl (Nat.le_of_ble_eq_true rfl) ?_
  refine ev_if0 (tgt := 13) dM_end_6 (by decide) (fun h6 => ?_) (fun h6 => ?_)
  · exact absurd h6 (show ¬ nI 1 = nI 0 by decide)
  · refine ev_const (v := nI 0) dM_end_9 (by decide) ?_
    refine ev_goto (tgt := 14) dM_end_10 (by decide) ?_
    refine ev_puti dM_end_14 fM_97 fwM_thrown rfl (vp_nar_int _) rfl ?_
    refine ev_al dM_end_17 rfl (by first | assumption | rfl) ?_
    refine ev_geti dM_end_18 fM_97 rfl ?_
    rw [zI_s]
    refine ev_if0 (tgt := 28) dM_end_21 (by decide) (fun h21 => ?_) (fun h21 => ?_)
    · refine ev_al dM_end_28 rfl (by first | assumption | rfl) ?_
      refine ev_getrP dM_end_29 fM_16 rfl (zq (q := 28) hP rfl) ?_
      refine ev_al dM_end_32 rfl (by first | assumption | rfl) ?_
      refine ev_getrP dM_end_33 fM_41 rfl (zq (q := 36) hP rfl) ?_
      refine ev_il dM_end_36 rfl (by first | assumption | rfl) ?_
      refine ev_aldN dM_end_37 rfl rfl (by omega) ?_
      rw [(z0 (by omega)).trans ha]
      refine ev_aldN dM_end_38 rfl rfl (by omega) ?_
      rw [(z0 (by omega)).trans hv]
      refine ev_al dM_end_39 rfl (by first | assumption | rfl) ?_
      refine ev_getrP dM_end_40 fM_20 rfl (zq (q := 29) hP rfl) ?_
      refine ev_al dM_end_43 rfl (by first | assumption | rfl) ?_
      refine ev_getrP dM_end_44 fM_41 rfl (zq (q := 36) hP rfl) ?_
      refine ev_il dM_end_47 rfl (by first | assumption | rfl) ?_
      refine ev_aldN dM_end_48 rfl rfl (by omega) ?_
      rw [(z0 (by omega)).trans ha]
      refine ev_aldN dM_end_49 rfl rfl (by omega) ?_
      rw [(z0 (by omega)).trans hm]
      first | with_reducible refine ev_addN dM_end_50 ?_ | refine ev_add dM_end_50 ?_
      refine ev_ret dM_end_51 rfl rfl ?_
      exact ⟨rfl, rfl⟩
    · exact absurd (show nI 0 ≤ nI 0 by decide) h21
set_option maxRecDepth 100000 in
set_option maxHeartbeats 4000000 in
theorem r_value_out {c : Nat} {x : Int32} (hP : M.2.1 = zP0 n b) (hc : M.1 25 14 = nI c) (h : x < nI 0 ∨ nI c ≤ x) : Ct Lx xs (d + 1) mM_value [.ref 25, .int x] M (fun q M' => q = some (nI 0) ∧ M' = zI M 25 0 (nI 1)) := by
  unfold Ct
  refine ev_al dM_value_0 rfl (by first | assumption | rfl) ?_
  refine ev_al dM_value_1 rfl (by first | assumption | rfl) ?_
  refine ev_il dM_value_2 rfl (by first | assumption | rfl) ?_
  refine ev_pV dM_value_3 (r_isItem_out hP hc h) lM_268 rec_M rfl (Nat.le_of_ble_eq_true rfl) rfl (Nat.le_of_ble_eq_true rfl) ?_
  refine ev_if0 (tgt := 13) dM_value_6 (by decide) (fun h6 => ?_) (fun h6 => ?_)
  · refine ev_const (v := nI 1) dM_value_13 (by decide) ?_
    refine ev_puti dM_value_14 fM_97 fwM_thrown rfl (vp_nar_int _) rfl ?_
    refine ev_al dM_value_17 rfl (by first | assumption | rfl) ?_
    refine ev_geti dM_value_18 fM_97 rfl ?_
    rw [zI_s]
    refine ev_if0 (tgt := 28) dM_value_21 (by decide) (fun h21 => ?_) (fun h21 => ?_)
    · exact absurd h21 (show ¬ nI 1 ≤ nI 0 by decide)
    · refine ev_const (v := nI 0) dM_value_24 (by decide) ?_
      refine ev_goto (tgt := 34) dM_value_25 (by decide) ?_
      refine ev_ret dM_value_34 rfl rfl ?_
      exact ⟨rfl, rfl⟩
  · exact (h6 rfl).elim
set_option maxRecDepth 100000 in
set_option maxHeartbeats 4000000 in
theorem r_value_in {c k : Nat} (hP : M.2.1 = zP0 n b) (hc : M.1 25 14 = nI c) (hc2 : c ≤ 160) (hk : k < c)  : Ct Lx xs (d + 1) mM_value [.ref 25, .int (nI k)] M (fun q M' => q = some (M.1 41 k) ∧ M' = zI M 25 0 (nI 0)) := by
  unfold Ct
  refine ev_al dM_value_0 rfl (by first | assumption | rfl) ?_
  refine ev_al dM_value_1 rfl (by first | assumption | rfl) ?_
  refine ev_il dM_value_2 rfl (by first | assumption | rfl) ?_
  refine ev_pV dM_value_3 (r_isItem_in hP hc hc2 hk) lM_268 rec_M rfl (Nat.le_of_ble_eq_true rfl) rfl (Nat.le_of_ble_eq_true rfl) ?_
  refine ev_if0 (tgt := 13) dM_value_6 (by decide) (fun h6 => ?_) (fun h6 => ?_)
  · exact absurd h6 (show ¬ nI 1 = nI 0 by decide)
  · refine ev_const (v := nI 0) dM_value_9 (by decide) ?_
    refine ev_goto (tgt := 14) dM_value_10 (by decide) ?_
    refine ev_puti dM_value_14 fM_97 fwM_thrown rfl (vp_nar_int _) rfl ?_
    refine ev_al dM_value_17 rfl (by first | assumption | rfl) ?_
    refine ev_geti dM_value_18 fM_97 rfl ?_
    rw [zI_s]
    refine ev_if0 (tgt := 28) dM_value_21 (by decide) (fun h21 => ?_) (fun h21 => ?_)
    · refine ev_al dM_value_28 rfl (by first | assumption | rfl) ?_
      refine ev_getrP dM_value_29 fM_57 rfl (zq (q := 41) hP rfl) ?_
      refine ev_il dM_value_32 rfl (by first | assumption | rfl) ?_
      refine ev_aldN dM_value_33 rfl rfl (by omega) ?_
      refine ev_ret dM_value_34 rfl rfl ?_
      exact ⟨congrArg some (z0 (by omega)), rfl⟩
    · exact absurd (show nI 0 ≤ nI 0 by decide) h21
def mWh (nu : Nat → Int32) (x : Int32) : Nat → Nat → Int32 → Int32
  | 0, _, y => y
  | f + 1, k, y => mWh nu x f (k + 1) (if nu k = x then nI k else y)
set_option maxRecDepth 100000 in
set_option maxHeartbeats 4000000 in
theorem r_whL {c : Nat} {x : Int32} (hP : M.2.1 = zP0 n b) (hc : M.1 25 14 = nI c) (hc2 : c ≤ 160) {R : Option Int32 → zM → Prop} : ∀ (f k : Nat) (y : Int32) (L : Nat → Value), k + f = c → L 0 = .ref 25 → L 1 = .int x → L 2 = .int y → L 3 = .int (nI k) → R (some (mWh (M.1 40) x f k y)) (zI M 25 0 (nI 0)) → Ev Lx xs d mM_which 9 L [] (zI M 25 0 (nI 0)) (zpost mM_which R) := by
  intro f
  induction f with
  | zero =>
    intro k y L hf hL0 hL1 hL2 hL3 hR
    refine ev_il dM_which_9 rfl (by first | assumption | rfl) ?_
    refine ev_al dM_which_10 rfl (by first | assumption | rfl) ?_
    refine ev_geti dM_which_11 fM_146 rfl ?_
    rw [(z0 (by omega)).trans hc]
    refine ev_icmp (tgt := 39) dM_which_14 (by decide) (fun h14 => ?_) (fun h14 => ?_)
    · try simp (disch := omega) only [zcond, nI_ltI, nI_leI, nI_eq, zb0, Classical.not_not, Bool.not_eq_false, Bool.not_eq_true, Nat.not_lt, Nat.not_le] at h14
      refine ev_il dM_which_39 rfl (by first | assumption | rfl) ?_
      refine ev_ret dM_which_40 rfl rfl ?_
      exact hR
    · first | omega | (simp (disch := omega) only [zcond, nI_ltI, nI_leI, nI_eq] at h14; omega)
  | succ f ih =>
    intro k y L hf hL0 hL1 hL2 hL3 hR
    refine ev_il dM_which_9 rfl (by first | assumption | rfl) ?_
    refine ev_al dM_which_10 rfl (by first | assumption | rfl) ?_
    refine ev_geti dM_which_11 fM_146 rfl ?_
    rw [(z0 (by omega)).trans hc]
    refine ev_icmp (tgt := 39) dM_which_14 (by decide) (fun h14 => ?_) (fun h14 => ?_)
    · first | omega | (simp (disch := omega) only [zcond, nI_ltI, nI_leI, nI_eq] at h14; omega)
    · try simp (disch := omega) only [zcond, nI_ltI, nI_leI, nI_eq, zb0, Classical.not_not, Bool.not_eq_false, Bool.not_eq_true, Nat.not_lt, Nat.not_le] at h14
      refine ev_al dM_which_17 rfl (by first | assumption | rfl) ?_
      refine ev_getrP dM_which_18 fM_54 rfl (zq (q := 40) hP rfl) ?_
      refine ev_il dM_which_21 rfl (by first | assumption | rfl) ?_
      refine ev_aldN dM_which_22 rfl rfl (by omega) ?_
      rw [show (zI M 25 0 (nI 0)).1 40 k = M.1 40 k from z0 (by omega)]
      refine ev_il dM_which_23 rfl (by first | assumption | rfl) ?_
      refine ev_icmp (tgt := 31) dM_which_24 (by decide) (fun h24 => ?_) (fun h24 => ?_)
      · simp only [zcond, Classical.not_not] at h24
        refine ev_il dM_which_31 rfl (by first | assumption | rfl) ?_
        refine ev_is dM_which_32 rfl (Nat.le_of_ble_eq_true rfl) ?_
        refine ev_inc1 dM_which_33 (by first | assumption | rfl) ?_
        refine ev_goto (tgt := 9) dM_which_36 (by decide) ?_
        first
        | (refine ih (k + 1) _ _ (by omega) (by first | assumption | rfl) (by first | assumption | rfl) rfl rfl ?_
           rw [mWh, if_pos h24] at hR; exact hR)
        | (refine ih (k + 1) _ _ (by omega) (by first | assumption | rfl) (by first | assumption | rfl) rfl rfl ?_
           rw [mWh, if_neg h24] at hR; exact hR)
      · simp only [zcond, Classical.not_not] at h24
        refine ev_il dM_which_27 rfl (by first | assumption | rfl) ?_
        refine ev_goto (tgt := 32) dM_which_28 (by decide) ?_
        refine ev_is dM_which_32 rfl (Nat.le_of_ble_eq_true rfl) ?_
        refine ev_inc1 dM_which_33 (by first | assumption | rfl) ?_
        refine ev_goto (tgt := 9) dM_which_36 (by decide) ?_
        first
        | (refine ih (k + 1) _ _ (by omega) (by first | assumption | rfl) (by first | assumption | rfl) rfl rfl ?_
           rw [mWh, if_pos h24] at hR; exact hR)
        | (refine ih (k + 1) _ _ (by omega) (by first | assumption | rfl) (by first | assumption | rfl) rfl rfl ?_
           rw [mWh, if_neg h24] at hR; exact hR)
set_option maxRecDepth 100000 in
set_option maxHeartbeats 4000000 in
theorem r_which {c : Nat} {x : Int32} (hP : M.2.1 = zP0 n b) (hc : M.1 25 14 = nI c) (hc2 : c ≤ 160) : Ct Lx xs d mM_which [.ref 25, .int x] M (fun q M' => q = some (mWh (M.1 40) x c 0 (-1)) ∧ M' = zI M 25 0 (nI 0)) := by
  unfold Ct
  refine ev_al dM_which_0 rfl (by first | assumption | rfl) ?_
  refine ev_const (v := nI 0) dM_which_1 (by decide) ?_
  refine ev_puti dM_which_2 fM_97 fwM_thrown rfl (vp_nar_int _) rfl ?_
  refine ev_const (v := -1) dM_which_5 (by decide) ?_
  refine ev_is dM_which_6 rfl (Nat.le_of_ble_eq_true rfl) ?_
  refine ev_const (v := nI 0) dM_which_7 (by decide) ?_
  refine ev_is dM_which_8 rfl (Nat.le_of_ble_eq_true rfl) ?_
  exact r_whL hP hc hc2 c 0 _ _ (by omega) rfl rfl rfl rfl ⟨rfl, rfl⟩
end
