/- String.indexOf over the signs; the rest of Source (rows laid by program) -/
section
variable {Lx : Nat} {xs : Nat → Int32} {d : Nat} {M : zM} {n b r : Nat}
set_option maxRecDepth 100000 in
set_option maxHeartbeats 4000000 in
theorem c_isLatin1 : Pu Lx xs d mJ_isLatin1 [.ref 1001] M (nI 1) := by
  unfold Pu Ct
  refine ev_scmp dJ_isLatin1_0 fJ_38 ?_
  refine ev_if0 (tgt := 17) dJ_isLatin1_3 (by decide) (fun h3 => ?_) (fun h3 => ?_)
  · exact absurd h3 (show ¬ (1 : Int32) = nI 0 by decide)
  · refine ev_al dJ_isLatin1_6 rfl (by first | assumption | rfl) ?_
    refine ev_scod dJ_isLatin1_7 fJ_15 ?_
    refine ev_if0 (tgt := 17) dJ_isLatin1_10 (by decide) (fun h10 => ?_) (fun h10 => ?_)
    · exact absurd (show (0 : Int32) = nI 0 by decide) h10
    · refine ev_const (v := nI 1) dJ_isLatin1_13 (by decide) ?_
      refine ev_goto (tgt := 18) dJ_isLatin1_14 (by decide) ?_
      refine ev_ret dJ_isLatin1_18 rfl rfl ?_
      exact ⟨rfl, rfl⟩
set_option maxRecDepth 100000 in
set_option maxHeartbeats 4000000 in
theorem c_coder : Pu Lx xs d mJ_coder [.ref 1001] M (nI 0) := by
  unfold Pu Ct
  refine ev_scmp dJ_coder_0 fJ_38 ?_
  refine ev_if0 (tgt := 13) dJ_coder_3 (by decide) (fun h3 => ?_) (fun h3 => ?_)
  · exact absurd h3 (show ¬ (1 : Int32) = nI 0 by decide)
  · refine ev_al dJ_coder_6 rfl (by first | assumption | rfl) ?_
    refine ev_scod dJ_coder_7 fJ_15 ?_
    refine ev_goto (tgt := 14) dJ_coder_10 (by decide) ?_
    refine ev_ret dJ_coder_14 rfl rfl ?_
    exact ⟨rfl, rfl⟩
set_option maxRecDepth 100000 in
set_option maxHeartbeats 4000000 in
theorem c_length : Pu Lx xs (d + 1) mJ_length [.ref 1001] M (nI 10) := by
  unfold Pu Ct
  refine ev_al dJ_length_0 rfl (by first | assumption | rfl) ?_
  refine ev_sval dJ_length_1 fJ_9 ?_
  refine ev_sblen dJ_length_4 ?_
  refine ev_al dJ_length_5 rfl (by first | assumption | rfl) ?_
  refine ev_pV dJ_length_6 c_coder lJS_335 rec_J rfl (Nat.le_of_ble_eq_true rfl) rfl (Nat.le_of_ble_eq_true rfl) ?_
  refine ev_shr dJ_length_9 ?_
  refine ev_ret dJ_length_10 rfl rfl ?_
  exact ⟨by decide, rfl⟩
set_option maxRecDepth 100000 in
set_option maxHeartbeats 4000000 in
theorem c_canEncode {c : Nat} (hc : c < 128) : Pu Lx xs d mJ_canEncode [.int (nI c)] M (nI 1) := by
  unfold Pu Ct
  refine ev_il dJ_canEncode_0 rfl (by first | assumption | rfl) ?_
  refine ev_if0 (tgt := 15) dJ_canEncode_1 (by decide) (fun h1 => ?_) (fun h1 => ?_)
  · first | omega | (simp (disch := omega) only [zcond, nI_ltI, nI_leI, nI_eq] at h1; omega)
  · try simp (disch := omega) only [zcond, nI_ltI, nI_leI, nI_eq, zb0, Classical.not_not, Bool.not_eq_false, Nat.not_lt, Nat.not_le] at h1
    refine ev_il dJ_canEncode_4 rfl (by first | assumption | rfl) ?_
    refine ev_const (v := nI 255) dJ_canEncode_5 (by decide) ?_
    refine ev_icmp (tgt := 15) dJ_canEncode_8 (by decide) (fun h8 => ?_) (fun h8 => ?_)
    · first | omega | (simp (disch := omega) only [zcond, nI_ltI, nI_leI, nI_eq] at h8; omega)
    · try simp (disch := omega) only [zcond, nI_ltI, nI_leI, nI_eq, zb0, Classical.not_not, Bool.not_eq_false, Nat.not_lt, Nat.not_le] at h8
      refine ev_const (v := nI 1) dJ_canEncode_11 (by decide) ?_
      refine ev_goto (tgt := 16) dJ_canEncode_12 (by decide) ?_
      refine ev_ret dJ_canEncode_16 rfl rfl ?_
      exact ⟨rfl, rfl⟩
/-- the sign at place i is c -/
def zsg (i c : Nat) : Prop := zsb.getD i 0 = nI c
theorem zsg_lt : ∀ c, c < 128 → lSig c = false → ∀ i, i < 10 → ¬ zsb.getD i 0 = nI c := by decide
theorem zsg_ex : ∀ c, c < 128 → lSig c = true → ∃ i, i < 10 ∧ zsb.getD i 0 = nI c := by decide
set_option maxRecDepth 100000 in
set_option maxHeartbeats 4000000 in
theorem l_indexOfChar {c : Nat} {R : Option Int32 → zM → Prop} (hy : ∀ i, i < 10 → zsb.getD i 0 = nI c → R (some (nI i)) M) (hn : (∀ i, i < 10 → ¬ zsb.getD i 0 = nI c) → R (some (-1)) M) : ∀ (f i : Nat) (L : Nat → Value), i + f = 10 → L 0 = .ref 1002 → L 3 = .int (nI 10) → L 4 = .int (nI c) → L 5 = .int (nI i) → (∀ j, j < i → ¬ zsb.getD j 0 = nI c) → Ev Lx xs d mJ_indexOfChar 7 L [] M (zpost mJ_indexOfChar R) := by
  intro f
  induction f with
  | zero =>
    intro i L hf hL0 hL3 hL4 hL5 hno
    obtain rfl : i = 10 := by omega
    refine ev_il dJ_indexOfChar_7 rfl (by first | assumption | rfl) ?_
    refine ev_il dJ_indexOfChar_9 rfl (by first | assumption | rfl) ?_
    refine ev_icmp (tgt := 31) dJ_indexOfChar_10 (by decide) (fun h10 => ?_) (fun h10 => ?_)
    · try simp (disch := omega) only [zcond, nI_ltI, nI_leI, nI_eq, zb0, Classical.not_not, Bool.not_eq_false, Nat.not_lt, Nat.not_le] at h10
      refine ev_const (v := -1) dJ_indexOfChar_31 (by decide) ?_
      refine ev_ret dJ_indexOfChar_32 rfl rfl ?_
      exact hn hno
    · first | omega | (simp (disch := omega) only [zcond, nI_ltI, nI_leI, nI_eq] at h10; omega)
  | succ f ih =>
    intro i L hf hL0 hL3 hL4 hL5 hno
    refine ev_il dJ_indexOfChar_7 rfl (by first | assumption | rfl) ?_
    refine ev_il dJ_indexOfChar_9 rfl (by first | assumption | rfl) ?_
    refine ev_icmp (tgt := 31) dJ_indexOfChar_10 (by decide) (fun h10 => ?_) (fun h10 => ?_)
    · first | omega | (simp (disch := omega) only [zcond, nI_ltI, nI_leI, nI_eq] at h10; omega)
    · try simp (disch := omega) only [zcond, nI_ltI, nI_leI, nI_eq, zb0, Classical.not_not, Bool.not_eq_false, Nat.not_lt, Nat.not_le] at h10
      refine ev_al dJ_indexOfChar_13 rfl (by first | assumption | rfl) ?_
      refine ev_il dJ_indexOfChar_14 rfl (by first | assumption | rfl) ?_
      refine ev_sbld dJ_indexOfChar_16 (vp_in_nI (show i < zsn by show i < 10; omega) (by decide)) ?_
      rw [nI_clamp (by omega)]
      refine ev_il dJ_indexOfChar_17 rfl (by first | assumption | rfl) ?_
      refine ev_icmp (tgt := 25) dJ_indexOfChar_19 (by decide) (fun h19 => ?_) (fun h19 => ?_)
      · try simp only [zcond, Classical.not_not] at h19
        refine ev_inc1 dJ_indexOfChar_25 (by first | assumption | rfl) ?_
        refine ev_goto (tgt := 7) dJ_indexOfChar_28 (by decide) ?_
        refine ih (i + 1) _ (by omega) (by first | assumption | rfl) (by first | assumption | rfl) (by first | assumption | rfl) rfl ?_
        intro j hj
        rcases Nat.lt_succ_iff_lt_or_eq.mp hj with hj | rfl
        · exact hno j hj
        · exact h19
      · try simp only [zcond, Classical.not_not] at h19
        refine ev_il dJ_indexOfChar_22 rfl (by first | assumption | rfl) ?_
        refine ev_ret dJ_indexOfChar_24 rfl rfl ?_
        exact hy i (by omega) h19
/-- what indexOf answers: not below 0 just where c is a sign -/
def zixR (M : zM) (c : Nat) : Option Int32 → zM → Prop := fun q M' => M' = M ∧ ∃ x, q = some x ∧ (x < nI 0 ↔ lSig c = false)
theorem zixR_y {c i : Nat} (hc : c < 128) (hi : i < 10) (h : zsb.getD i 0 = nI c) : zixR M c (some (nI i)) M := by
  refine ⟨rfl, _, rfl, ⟨fun h1 => absurd h1 (nI_nlt (by omega) (by omega)), fun h1 => absurd h (zsg_lt c hc h1 i hi)⟩⟩
theorem zixR_n {c : Nat} (hc : c < 128) (h : ∀ i, i < 10 → ¬ zsb.getD i 0 = nI c) : zixR M c (some (-1)) M := by
  refine ⟨rfl, _, rfl, ⟨fun _ => ?_, fun _ => by decide⟩⟩
  cases hs : lSig c with
  | false => rfl
  | true => obtain ⟨i, hi, h1⟩ := zsg_ex c hc hs; exact absurd h1 (h i hi)
set_option maxRecDepth 100000 in
set_option maxHeartbeats 4000000 in
theorem c_indexOfChar {c : Nat} (hc : c < 128) : Ct Lx xs d mJ_indexOfChar [.ref 1002, .int (nI c), .int (nI 0), .int (nI 10)] M (zixR M c) := by
  unfold Ct
  refine ev_il dJ_indexOfChar_0 rfl (by first | assumption | rfl) ?_
  refine ev_un dJ_indexOfChar_1 rfl ?_
  rw [zi2b c hc]
  refine ev_is dJ_indexOfChar_2 rfl (Nat.le_of_ble_eq_true rfl) ?_
  refine ev_il dJ_indexOfChar_4 rfl (by first | assumption | rfl) ?_
  refine ev_is dJ_indexOfChar_5 rfl (Nat.le_of_ble_eq_true rfl) ?_
  exact l_indexOfChar (fun i hi h => zixR_y hc hi h) (fun h => zixR_n hc h) 10 0 _ rfl rfl rfl rfl rfl (fun j hj => absurd hj (Nat.not_lt_zero j))
set_option maxRecDepth 100000 in
set_option maxHeartbeats 4000000 in
theorem c_lindexOf {c : Nat} (hc : c < 128) : Ct Lx xs (d + 1) mJ_lindexOf [.ref 1002, .int (nI c), .int (nI 0), .int (nI 10)] M (zixR M c) := by
  unfold Ct
  refine ev_il dJ_lindexOf_0 rfl (by first | assumption | rfl) ?_
  refine ev_pS dJ_lindexOf_1 (c_canEncode hc) lJL_88 rfl (Nat.le_of_ble_eq_true rfl) rfl (Nat.le_of_ble_eq_true rfl) ?_
  refine ev_if0 (tgt := 9) dJ_lindexOf_4 (by decide) (fun h4 => ?_) (fun h4 => ?_)
  · refine ev_il dJ_lindexOf_9 rfl (by first | assumption | rfl) ?_
    refine ev_const (v := nI 0) dJ_lindexOf_10 (by decide) ?_
    refine ev_max dJ_lindexOf_11 lJL_92 (Nat.le_of_ble_eq_true rfl) ?_
    rw [show (if nI 0 < nI 0 then nI 0 else nI 0) = nI 0 by decide]
    refine ev_is dJ_lindexOf_14 rfl (Nat.le_of_ble_eq_true rfl) ?_
    refine ev_il dJ_lindexOf_15 rfl (by first | assumption | rfl) ?_
    refine ev_al dJ_lindexOf_16 rfl (by first | assumption | rfl) ?_
    refine ev_sblen dJ_lindexOf_17 ?_
    refine ev_min dJ_lindexOf_18 lJL_38 (Nat.le_of_ble_eq_true rfl) ?_
    rw [show (if nI zsn < nI 10 then nI zsn else nI 10) = nI 10 by decide]
    refine ev_is dJ_lindexOf_21 rfl (Nat.le_of_ble_eq_true rfl) ?_
    refine ev_il dJ_lindexOf_22 rfl (by first | assumption | rfl) ?_
    refine ev_il dJ_lindexOf_23 rfl (by first | assumption | rfl) ?_
    refine ev_icmp (tgt := 29) dJ_lindexOf_24 (by decide) (fun h24 => ?_) (fun h24 => ?_)
    · try simp (disch := omega) only [zcond, nI_ltI, nI_leI, nI_eq, zb0, Classical.not_not, Bool.not_eq_false, Nat.not_lt, Nat.not_le] at h24
      refine ev_al dJ_lindexOf_29 rfl (by first | assumption | rfl) ?_
      refine ev_il dJ_lindexOf_30 rfl (by first | assumption | rfl) ?_
      refine ev_il dJ_lindexOf_31 rfl (by first | assumption | rfl) ?_
      refine ev_il dJ_lindexOf_32 rfl (by first | assumption | rfl) ?_
      refine ev_cS dJ_lindexOf_33 (c_indexOfChar hc) lJL_95 rfl (Nat.le_of_ble_eq_true rfl) rfl (Nat.le_of_ble_eq_true rfl) (fun q M1 hq => ?_)
      obtain ⟨rfl, x, rfl, hx⟩ := hq
      refine ev_ret dJ_lindexOf_36 rfl rfl ?_
      exact ⟨rfl, x, rfl, hx⟩
    · first | omega | (simp (disch := omega) only [zcond, nI_ltI, nI_leI, nI_eq] at h24; omega)
  · exact absurd h4 (show ¬ ¬ ¬ nI 1 = nI 0 by decide)
set_option maxRecDepth 100000 in
set_option maxHeartbeats 4000000 in
theorem c_indexOf2 {c : Nat} (hc : c < 128) : Ct Lx xs (d + 2) mJ_indexOf2 [.ref 1001, .int (nI c), .int (nI 0)] M (zixR M c) := by
  unfold Ct
  refine ev_al dJ_indexOf2_0 rfl (by first | assumption | rfl) ?_
  refine ev_pV dJ_indexOf2_1 c_isLatin1 lJS_492 rec_J rfl (Nat.le_of_ble_eq_true rfl) rfl (Nat.le_of_ble_eq_true rfl) ?_
  refine ev_if0 (tgt := 23) dJ_indexOf2_4 (by decide) (fun h4 => ?_) (fun h4 => ?_)
  · exact absurd h4 (show ¬ nI 1 = nI 0 by decide)
  · refine ev_al dJ_indexOf2_7 rfl (by first | assumption | rfl) ?_
    refine ev_sval dJ_indexOf2_8 fJ_9 ?_
    refine ev_il dJ_indexOf2_11 rfl (by first | assumption | rfl) ?_
    refine ev_il dJ_indexOf2_12 rfl (by first | assumption | rfl) ?_
    refine ev_al dJ_indexOf2_13 rfl (by first | assumption | rfl) ?_
    refine ev_pV dJ_indexOf2_14 c_length lJS_505 rec_J rfl (Nat.le_of_ble_eq_true rfl) rfl (Nat.le_of_ble_eq_true rfl) ?_
    refine ev_cS dJ_indexOf2_17 (c_lindexOf hc) lJS_637 rfl (Nat.le_of_ble_eq_true rfl) rfl (Nat.le_of_ble_eq_true rfl) (fun q M1 hq => ?_)
    obtain ⟨rfl, x, rfl, hx⟩ := hq
    refine ev_goto (tgt := 36) dJ_indexOf2_20 (by decide) ?_
    refine ev_ret dJ_indexOf2_36 rfl rfl ?_
    exact ⟨rfl, x, rfl, hx⟩
set_option maxRecDepth 100000 in
set_option maxHeartbeats 4000000 in
theorem c_indexOf1 {c : Nat} (hc : c < 128) : Ct Lx xs (d + 3) mJ_indexOf1 [.ref 1001, .int (nI c)] M (zixR M c) := by
  unfold Ct
  refine ev_al dJ_indexOf1_0 rfl (by first | assumption | rfl) ?_
  refine ev_il dJ_indexOf1_1 rfl (by first | assumption | rfl) ?_
  refine ev_const (v := nI 0) dJ_indexOf1_2 (by decide) ?_
  refine ev_cV dJ_indexOf1_3 (c_indexOf2 hc) lJS_633 rec_J rfl (Nat.le_of_ble_eq_true rfl) rfl (Nat.le_of_ble_eq_true rfl) (fun q M1 hq => ?_)
  obtain ⟨rfl, x, rfl, hx⟩ := hq
  refine ev_ret dJ_indexOf1_6 rfl rfl ?_
  exact ⟨rfl, x, rfl, hx⟩
def lPk (t : Nat → Nat) (e p : Nat) : Nat := p * 2048 + (lEnd t e p - p) * 8 + lKind t e p
set_option maxRecDepth 100000 in
set_option maxHeartbeats 4000000 in
theorem c_tokenFrom {t : Nat → Nat} {e p : Nat} (hP : M.2.1 = zP0 n b) (hr : zR r) (hT : Txt M r t e) (hp : p < e) : Pu Lx xs (d + 4) mS_tokenFrom [.ref (r + 1), .int (nI p)] M (nI (lPk t e p)) := by
  unfold Pu Ct
  have he := hT.2.1
  have htp := (hT.2.2 p hp).2
  refine ev_al dS_tokenFrom_0 rfl (by first | assumption | rfl) ?_
  refine ev_getrP dS_tokenFrom_1 fS_9 (sh_S hr) (zq hP (pt_chars hr)) ?_
  refine ev_il dS_tokenFrom_4 rfl (by first | assumption | rfl) ?_
  refine ev_aldN dS_tokenFrom_5 rfl (sh_chars hr) (by omega) ?_
  rw [(hT.2.2 p hp).1]
  refine ev_is dS_tokenFrom_6 rfl (Nat.le_of_ble_eq_true rfl) ?_
  refine ev_il dS_tokenFrom_7 rfl (by first | assumption | rfl) ?_
  refine ev_const (v := nI 34) dS_tokenFrom_8 (by decide) ?_
  refine ev_icmp (tgt := 19) dS_tokenFrom_10 (by decide) (fun h10 => ?_) (fun h10 => ?_)
  · try simp (disch := omega) only [zcond, nI_ltI, nI_leI, nI_eq, zb0, Classical.not_not, Bool.not_eq_false, Nat.not_lt, Nat.not_le] at h10
    refine ev_il dS_tokenFrom_19 rfl (by first | assumption | rfl) ?_
    refine ev_pS dS_tokenFrom_20 (c_isLetter (by omega)) lS_52 rfl (Nat.le_of_ble_eq_true rfl) rfl (Nat.le_of_ble_eq_true rfl) ?_
    refine ev_if0 (tgt := 38) dS_tokenFrom_23 (by decide) (fun h23 => ?_) (fun h23 => ?_)
    · try simp (disch := omega) only [zcond, nI_ltI, nI_leI, nI_eq, zb0, Classical.not_not, Bool.not_eq_false, Nat.not_lt, Nat.not_le] at h23
      refine ev_il dS_tokenFrom_38 rfl (by first | assumption | rfl) ?_
      refine ev_pS dS_tokenFrom_39 (c_isDigit (by omega)) lS_64 rfl (Nat.le_of_ble_eq_true rfl) rfl (Nat.le_of_ble_eq_true rfl) ?_
      refine ev_if0 (tgt := 57) dS_tokenFrom_42 (by decide) (fun h42 => ?_) (fun h42 => ?_)
      · try simp (disch := omega) only [zcond, nI_ltI, nI_leI, nI_eq, zb0, Classical.not_not, Bool.not_eq_false, Nat.not_lt, Nat.not_le] at h42
        refine ev_il dS_tokenFrom_57 rfl (by first | assumption | rfl) ?_
        refine ev_il dS_tokenFrom_58 rfl (by first | assumption | rfl) ?_
        refine ev_const (v := nI 1) dS_tokenFrom_59 (by decide) ?_
        first | with_reducible refine ev_addN dS_tokenFrom_60 ?_ | refine ev_add dS_tokenFrom_60 ?_
        refine ev_ldcS dS_tokenFrom_61 rfl ?_
        refine ev_il dS_tokenFrom_63 rfl (by first | assumption | rfl) ?_
        refine ev_cV dS_tokenFrom_64 (c_indexOf1 htp) lS_69 rec_J rfl (Nat.le_of_ble_eq_true rfl) rfl (Nat.le_of_ble_eq_true rfl) (fun q M1 hq => ?_)
        obtain ⟨rfl, x, rfl, hx⟩ := hq
        refine ev_if0 (tgt := 74) dS_tokenFrom_67 (by decide) (fun h67 => ?_) (fun h67 => ?_)
        · simp only [zcond] at h67
          rw [hx] at h67
          try simp only [Bool.not_eq_false] at h67
          refine ev_const (v := nI 4) dS_tokenFrom_74 (by decide) ?_
          refine ev_pS dS_tokenFrom_75 (c_packed (by omega)) lS_60 rfl (Nat.le_of_ble_eq_true rfl) rfl (Nat.le_of_ble_eq_true rfl) ?_
          refine ev_ret dS_tokenFrom_78 rfl rfl ?_
          exact ⟨by simp [lPk, lEnd, lKind, h10, h23, h42, h67], rfl⟩
        · simp only [zcond] at h67
          rw [hx] at h67
          try simp only [Bool.not_eq_false] at h67
          refine ev_const (v := nI 3) dS_tokenFrom_70 (by decide) ?_
          refine ev_goto (tgt := 75) dS_tokenFrom_71 (by decide) ?_
          refine ev_pS dS_tokenFrom_75 (c_packed (by omega)) lS_60 rfl (Nat.le_of_ble_eq_true rfl) rfl (Nat.le_of_ble_eq_true rfl) ?_
          refine ev_ret dS_tokenFrom_78 rfl rfl ?_
          exact ⟨by simp [lPk, lEnd, lKind, h10, h23, h42, h67], rfl⟩
      · try simp (disch := omega) only [zcond, nI_ltI, nI_leI, nI_eq, zb0, Classical.not_not, Bool.not_eq_false, Nat.not_lt, Nat.not_le] at h42
        refine ev_il dS_tokenFrom_45 rfl (by first | assumption | rfl) ?_
        refine ev_al dS_tokenFrom_46 rfl (by first | assumption | rfl) ?_
        refine ev_il dS_tokenFrom_47 rfl (by first | assumption | rfl) ?_
        refine ev_const (v := nI 0) dS_tokenFrom_48 (by decide) ?_
        refine ev_pV dS_tokenFrom_49 (c_behindRun_d hP hr hT (by omega)) lS_56 (rec_S hr) rfl (Nat.le_of_ble_eq_true rfl) rfl (Nat.le_of_ble_eq_true rfl) ?_
        refine ev_const (v := nI 1) dS_tokenFrom_52 (by decide) ?_
        refine ev_pS dS_tokenFrom_53 (c_packed (lRun_in _ _ _ _).1) lS_60 rfl (Nat.le_of_ble_eq_true rfl) rfl (Nat.le_of_ble_eq_true rfl) ?_
        refine ev_ret dS_tokenFrom_56 rfl rfl ?_
        exact ⟨by simp [lPk, lEnd, lKind, h10, h23, h42], rfl⟩
    · try simp (disch := omega) only [zcond, nI_ltI, nI_leI, nI_eq, zb0, Classical.not_not, Bool.not_eq_false, Nat.not_lt, Nat.not_le] at h23
      refine ev_il dS_tokenFrom_26 rfl (by first | assumption | rfl) ?_
      refine ev_al dS_tokenFrom_27 rfl (by first | assumption | rfl) ?_
      refine ev_il dS_tokenFrom_28 rfl (by first | assumption | rfl) ?_
      refine ev_const (v := nI 1) dS_tokenFrom_29 (by decide) ?_
      refine ev_pV dS_tokenFrom_30 (c_behindRun_l hP hr hT (by omega)) lS_56 (rec_S hr) rfl (Nat.le_of_ble_eq_true rfl) rfl (Nat.le_of_ble_eq_true rfl) ?_
      refine ev_const (v := nI 0) dS_tokenFrom_33 (by decide) ?_
      refine ev_pS dS_tokenFrom_34 (c_packed (lRun_in _ _ _ _).1) lS_60 rfl (Nat.le_of_ble_eq_true rfl) rfl (Nat.le_of_ble_eq_true rfl) ?_
      refine ev_ret dS_tokenFrom_37 rfl rfl ?_
      exact ⟨by simp [lPk, lEnd, lKind, h10, h23], rfl⟩
  · try simp (disch := omega) only [zcond, nI_ltI, nI_leI, nI_eq, zb0, Classical.not_not, Bool.not_eq_false, Nat.not_lt, Nat.not_le] at h10
    refine ev_al dS_tokenFrom_13 rfl (by first | assumption | rfl) ?_
    refine ev_il dS_tokenFrom_14 rfl (by first | assumption | rfl) ?_
    refine ev_pV dS_tokenFrom_15 (c_quotedFrom hP hr hT hp) lS_49 (rec_S hr) rfl (Nat.le_of_ble_eq_true rfl) rfl (Nat.le_of_ble_eq_true rfl) ?_
    refine ev_ret dS_tokenFrom_18 rfl rfl ?_
    refine ⟨?_, rfl⟩
    unfold lPk lEnd lKind
    rw [if_pos h10, if_pos h10]
    split <;> rfl
end
