/- Reading: sees, takes, needs, opens (rows laid by program) -/
theorem zM_ext {M M' : zM} (h : ∀ a i, M.1 a i = M'.1 a i) (h2 : M.2 = M'.2) : M = M' := by
  obtain ⟨I, P⟩ := M
  obtain ⟨I', P'⟩ := M'
  have : I = I' := funext fun a => funext fun i => h a i
  subst this
  cases h2
  rfl
theorem zbt {b : Bool} (h : b = true) : some (nI 1) = some (nI b.toNat) := by subst h; rfl
theorem zbf {b : Bool} (h : b = false) : some (nI 0) = some (nI b.toNat) := by subst h; rfl
/-- the reading r with its next token and 'stopped' -/
def mE (M : zM) (r : Nat) (s : pE) : zM := zI (zI M r 2 (nI s.1)) r 3 (nI s.2.toNat)
def pT (nT : Nat) (mk : Nat → Nat) (s : pE) (c : Nat) : pE := if pS nT mk s c = true then (s.1 + 1, s.2) else s
def pOb (nT : Nat) (mk : Nat → Nat) (s : pE) (c dp : Nat) : Bool := pS nT mk s c && decide (dp < 12)
def pOs (nT : Nat) (mk : Nat → Nat) (s : pE) (c dp : Nat) : pE := if pS nT mk s c = true then (if 12 ≤ dp then (s.1, true) else (s.1 + 1, s.2)) else s
/-- the tokens' marks -/
def Mks (M : zM) (r nT : Nat) (mk : Nat → Nat) : Prop := M.1 (r + 1) 4 = nI nT ∧ nT ≤ 160 ∧ ∀ k, k < nT → M.1 (r + 5) k = nI (mk k) ∧ mk k < 128
section
variable {M : zM} {r : Nat} {s : pE}
theorem mE_n : (mE M r s).1 r 2 = nI s.1 := by unfold mE; rw [zI_k (by decide), zI_s]
theorem mE_s : (mE M r s).1 r 3 = nI s.2.toNat := by unfold mE; rw [zI_s]
theorem mE_o {a i : Nat} (h : a ≠ r) : (mE M r s).1 a i = M.1 a i := by unfold mE; rw [zI_o h, zI_o h]
theorem mE_k {i : Nat} (h : i ≠ 2) (h2 : i ≠ 3) : (mE M r s).1 r i = M.1 r i := by unfold mE; rw [zI_k h2, zI_k h]
theorem mE_N {p : Nat} : zI (mE M r s) r 2 (nI p) = mE M r (p, s.2) := by
  refine zM_ext (fun a i => ?_) rfl
  unfold mE
  simp only [zI_at]
  (repeat' split) <;> first | rfl | simp_all | (exfalso; simp_all)
theorem mE_S {b : Bool} : zI (mE M r s) r 3 (nI b.toNat) = mE M r (s.1, b) := by
  refine zM_ext (fun a i => ?_) rfl
  unfold mE
  simp only [zI_at]
  (repeat' split) <;> first | rfl | simp_all | (exfalso; simp_all)
theorem mE_S1 : zI (mE M r s) r 3 (nI 1) = mE M r (s.1, true) := mE_S (b := true)
theorem mE_E {s' : pE} : mE (mE M r s) r s' = mE M r s' := by
  refine zM_ext (fun a i => ?_) rfl
  unfold mE
  simp only [zI_at]
  (repeat' split) <;> first | rfl | simp_all | (exfalso; simp_all)
theorem Mks.E {nT : Nat} {mk : Nat → Nat} (h : Mks M r nT mk) : Mks (mE M r s) r nT mk :=
  ⟨(mE_o (by omega)).trans h.1, h.2.1, fun k hk => ⟨(mE_o (by omega)).trans (h.2.2 k hk).1, (h.2.2 k hk).2⟩⟩
end
section
variable {nT : Nat} {mk : Nat → Nat} {s : pE} {c dp : Nat}
theorem pT_t (h : pS nT mk s c = true) : pT nT mk s c = (s.1 + 1, s.2) := if_pos h
theorem pT_f (h : pS nT mk s c = false) : pT nT mk s c = s := if_neg (by rw [h]; decide)
theorem pOs_f (h : pOb nT mk s c dp = false) : (pOs nT mk s c dp).1 = s.1 := by
  unfold pOb at h
  unfold pOs
  split
  · rename_i h1
    rw [h1] at h
    rw [if_pos (by simpa using h)]
  · rfl
theorem pOb_t (h : pOb nT mk s c dp = true) : pS nT mk s c = true ∧ dp < 12 ∧ pOs nT mk s c dp = (s.1 + 1, s.2) := by
  unfold pOb at h
  simp at h
  refine ⟨h.1, h.2, ?_⟩
  unfold pOs
  rw [if_pos h.1, if_neg (by omega)]
end
section
variable {Lx : Nat} {xs : Nat → Int32} {d : Nat} {M : zM} {n b r nT : Nat} {mk : Nat → Nat} {s : pE} {c : Nat}
set_option maxRecDepth 100000 in
set_option maxHeartbeats 4000000 in
theorem c_sees (hP : M.2.1 = zP0 n b) (hr : zR r) (hE : Mks M r nT mk) (hs : s.1 < 2 ^ 31) (hc : c < 128) : Pu Lx xs d mR_sees [.ref r, .int (nI c)] (mE M r s) (nI (pS nT mk s c).toNat) := by
  unfold Pu Ct
  have hnT := hE.2.1
  refine ev_al dR_sees_0 rfl (by first | assumption | rfl) ?_
  refine ev_geti dR_sees_1 fR_29 (sh_R hr) ?_
  rw [mE_s]
  refine ev_if0 (tgt := 41) dR_sees_4 (by decide) (fun h4 => ?_) (fun h4 => ?_)
  · try simp (disch := omega) only [zcond, nI_ltI, nI_leI, nI_eq, zb0, Classical.not_not, Bool.not_eq_false, Bool.not_eq_true, Nat.not_lt, Nat.not_le] at h4
    refine ev_const (v := nI 0) dR_sees_41 (by decide) ?_
    refine ev_ret dR_sees_42 rfl rfl ?_
    first | exact ⟨zbt (pS_iff.mpr ⟨h4, h18, h34⟩), rfl⟩ | exact ⟨zbf (Bool.eq_false_iff.mpr (fun hp => by obtain ⟨h1, h2, h3⟩ := pS_iff.mp hp; first | omega | simp_all)), rfl⟩
  · try simp (disch := omega) only [zcond, nI_ltI, nI_leI, nI_eq, zb0, Classical.not_not, Bool.not_eq_false, Bool.not_eq_true, Nat.not_lt, Nat.not_le] at h4
    refine ev_al dR_sees_7 rfl (by first | assumption | rfl) ?_
    refine ev_geti dR_sees_8 fR_25 (sh_R hr) ?_
    rw [mE_n]
    refine ev_al dR_sees_11 rfl (by first | assumption | rfl) ?_
    refine ev_getrP dR_sees_12 fR_12 (sh_R hr) (zq hP (pt_source hr)) ?_
    refine ev_geti dR_sees_15 fR_36 (sh_S hr) ?_
    rw [mE_o (by omega), hE.1]
    refine ev_icmp (tgt := 41) dR_sees_18 (by decide) (fun h18 => ?_) (fun h18 => ?_)
    · try simp (disch := omega) only [zcond, nI_ltI, nI_leI, nI_eq, zb0, Classical.not_not, Bool.not_eq_false, Bool.not_eq_true, Nat.not_lt, Nat.not_le] at h18
      refine ev_const (v := nI 0) dR_sees_41 (by decide) ?_
      refine ev_ret dR_sees_42 rfl rfl ?_
      first | exact ⟨zbt (pS_iff.mpr ⟨h4, h18, h34⟩), rfl⟩ | exact ⟨zbf (Bool.eq_false_iff.mpr (fun hp => by obtain ⟨h1, h2, h3⟩ := pS_iff.mp hp; first | omega | simp_all)), rfl⟩
    · try simp (disch := omega) only [zcond, nI_ltI, nI_leI, nI_eq, zb0, Classical.not_not, Bool.not_eq_false, Bool.not_eq_true, Nat.not_lt, Nat.not_le] at h18
      refine ev_al dR_sees_21 rfl (by first | assumption | rfl) ?_
      refine ev_getrP dR_sees_22 fR_12 (sh_R hr) (zq hP (pt_source hr)) ?_
      refine ev_getrP dR_sees_25 fR_48 (sh_S hr) (zq hP (pt_marks hr)) ?_
      refine ev_al dR_sees_28 rfl (by first | assumption | rfl) ?_
      refine ev_geti dR_sees_29 fR_25 (sh_R hr) ?_
      rw [mE_n]
      refine ev_aldN dR_sees_32 rfl (sh_marks hr) (by omega) ?_
      rw [mE_o (by omega), (hE.2.2 s.1 h18).1]
      have hmk := (hE.2.2 s.1 h18).2
      refine ev_il dR_sees_33 rfl (by first | assumption | rfl) ?_
      refine ev_icmp (tgt := 41) dR_sees_34 (by decide) (fun h34 => ?_) (fun h34 => ?_)
      · try simp (disch := omega) only [zcond, nI_ltI, nI_leI, nI_eq, zb0, Classical.not_not, Bool.not_eq_false, Bool.not_eq_true, Nat.not_lt, Nat.not_le] at h34
        refine ev_const (v := nI 0) dR_sees_41 (by decide) ?_
        refine ev_ret dR_sees_42 rfl rfl ?_
        first | exact ⟨zbt (pS_iff.mpr ⟨h4, h18, h34⟩), rfl⟩ | exact ⟨zbf (Bool.eq_false_iff.mpr (fun hp => by obtain ⟨h1, h2, h3⟩ := pS_iff.mp hp; first | omega | simp_all)), rfl⟩
      · try simp (disch := omega) only [zcond, nI_ltI, nI_leI, nI_eq, zb0, Classical.not_not, Bool.not_eq_false, Bool.not_eq_true, Nat.not_lt, Nat.not_le] at h34
        refine ev_const (v := nI 1) dR_sees_37 (by decide) ?_
        refine ev_goto (tgt := 42) dR_sees_38 (by decide) ?_
        refine ev_ret dR_sees_42 rfl rfl ?_
        first | exact ⟨zbt (pS_iff.mpr ⟨h4, h18, h34⟩), rfl⟩ | exact ⟨zbf (Bool.eq_false_iff.mpr (fun hp => by obtain ⟨h1, h2, h3⟩ := pS_iff.mp hp; first | omega | simp_all)), rfl⟩
set_option maxRecDepth 100000 in
set_option maxHeartbeats 4000000 in
theorem c_takes (hP : M.2.1 = zP0 n b) (hr : zR r) (hE : Mks M r nT mk) (hs : s.1 < 2 ^ 31) (hc : c < 128) : Ct Lx xs (d + 1) mR_takes [.ref r, .int (nI c)] (mE M r s) (fun q M' => q = some (nI (pS nT mk s c).toNat) ∧ M' = mE M r (pT nT mk s c)) := by
  unfold Ct
  refine ev_al dR_takes_0 rfl (by first | assumption | rfl) ?_
  refine ev_il dR_takes_1 rfl (by first | assumption | rfl) ?_
  refine ev_pV dR_takes_2 (c_sees hP hr hE hs hc) lR_52 (rec_R hr) rfl (Nat.le_of_ble_eq_true rfl) rfl (Nat.le_of_ble_eq_true rfl) ?_
  refine ev_is dR_takes_5 rfl (Nat.le_of_ble_eq_true rfl) ?_
  refine ev_il dR_takes_6 rfl (by first | assumption | rfl) ?_
  refine ev_if0 (tgt := 20) dR_takes_7 (by decide) (fun h7 => ?_) (fun h7 => ?_)
  · try simp (disch := omega) only [zcond, nI_ltI, nI_leI, nI_eq, zb0, Classical.not_not, Bool.not_eq_false, Bool.not_eq_true, Nat.not_lt, Nat.not_le] at h7
    try rw [mE_N]
    refine ev_il dR_takes_20 rfl (by first | assumption | rfl) ?_
    refine ev_ret dR_takes_21 rfl (zb1 _) ?_
    first | (rw [pT_t h7]; exact ⟨rfl, rfl⟩) | (rw [pT_f h7]; exact ⟨rfl, rfl⟩)
  · try simp (disch := omega) only [zcond, nI_ltI, nI_leI, nI_eq, zb0, Classical.not_not, Bool.not_eq_false, Bool.not_eq_true, Nat.not_lt, Nat.not_le] at h7
    refine ev_al dR_takes_10 rfl (by first | assumption | rfl) ?_
    refine ev_stk dR_takes_11 rfl ?_
    refine ev_geti dR_takes_12 fR_25 (sh_R hr) ?_
    rw [mE_n]
    refine ev_const (v := nI 1) dR_takes_15 (by decide) ?_
    first | with_reducible refine ev_addN dR_takes_16 ?_ | refine ev_add dR_takes_16 ?_
    refine ev_puti dR_takes_17 fR_25 fwR_next (sh_R hr) (vp_nar_int _) rfl ?_
    try rw [mE_N]
    refine ev_il dR_takes_20 rfl (by first | assumption | rfl) ?_
    refine ev_ret dR_takes_21 rfl (zb1 _) ?_
    first | (rw [pT_t h7]; exact ⟨rfl, rfl⟩) | (rw [pT_f h7]; exact ⟨rfl, rfl⟩)
set_option maxRecDepth 100000 in
set_option maxHeartbeats 4000000 in
theorem c_needs (hP : M.2.1 = zP0 n b) (hr : zR r) (hE : Mks M r nT mk) (hs : s.1 < 2 ^ 31) (hc : c < 128) : Ct Lx xs (d + 1) mR_needs [.ref r, .int (nI c)] (mE M r s) (fun q M' => q = none ∧ M' = mE M r (pN nT mk s c)) := by
  unfold Ct
  refine ev_al dR_needs_0 rfl (by first | assumption | rfl) ?_
  refine ev_il dR_needs_1 rfl (by first | assumption | rfl) ?_
  refine ev_pV dR_needs_2 (c_sees hP hr hE hs hc) lR_52 (rec_R hr) rfl (Nat.le_of_ble_eq_true rfl) rfl (Nat.le_of_ble_eq_true rfl) ?_
  refine ev_if0 (tgt := 21) dR_needs_5 (by decide) (fun h5 => ?_) (fun h5 => ?_)
  · try simp (disch := omega) only [zcond, nI_ltI, nI_leI, nI_eq, zb0, Classical.not_not, Bool.not_eq_false, Bool.not_eq_true, Nat.not_lt, Nat.not_le] at h5
    refine ev_al dR_needs_21 rfl (by first | assumption | rfl) ?_
    refine ev_const (v := nI 1) dR_needs_22 (by decide) ?_
    refine ev_puti dR_needs_23 fR_29 fwR_stopped (sh_R hr) rfl rfl ?_
    try rw [mE_S1]
    refine ev_vret dR_needs_26 rfl ?_
    first | (rw [show pN nT mk s c = (s.1 + 1, s.2) from if_pos h5]; exact ⟨rfl, rfl⟩) | (rw [show pN nT mk s c = (s.1, true) from if_neg (by rw [h5]; decide)]; exact ⟨rfl, rfl⟩)
  · try simp (disch := omega) only [zcond, nI_ltI, nI_leI, nI_eq, zb0, Classical.not_not, Bool.not_eq_false, Bool.not_eq_true, Nat.not_lt, Nat.not_le] at h5
    refine ev_al dR_needs_8 rfl (by first | assumption | rfl) ?_
    refine ev_stk dR_needs_9 rfl ?_
    refine ev_geti dR_needs_10 fR_25 (sh_R hr) ?_
    rw [mE_n]
    refine ev_const (v := nI 1) dR_needs_13 (by decide) ?_
    first | with_reducible refine ev_addN dR_needs_14 ?_ | refine ev_add dR_needs_14 ?_
    refine ev_puti dR_needs_15 fR_25 fwR_next (sh_R hr) (vp_nar_int _) rfl ?_
    rw [mE_N]
    refine ev_goto (tgt := 26) dR_needs_18 (by decide) ?_
    try rw [mE_S1]
    refine ev_vret dR_needs_26 rfl ?_
    first | (rw [show pN nT mk s c = (s.1 + 1, s.2) from if_pos h5]; exact ⟨rfl, rfl⟩) | (rw [show pN nT mk s c = (s.1, true) from if_neg (by rw [h5]; decide)]; exact ⟨rfl, rfl⟩)
set_option maxRecDepth 100000 in
set_option maxHeartbeats 4000000 in
theorem c_opens {dp : Nat} (hP : M.2.1 = zP0 n b) (hr : zR r) (hE : Mks M r nT mk) (hs : s.1 < 2 ^ 31) (hc : c < 128) (hdp : dp < 2 ^ 31) : Ct Lx xs (d + 1) mR_opens [.ref r, .int (nI c), .int (nI dp)] (mE M r s) (fun q M' => q = some (nI (pOb nT mk s c dp).toNat) ∧ M' = mE M r (pOs nT mk s c dp)) := by
  unfold Ct
  refine ev_al dR_opens_0 rfl (by first | assumption | rfl) ?_
  refine ev_il dR_opens_1 rfl (by first | assumption | rfl) ?_
  refine ev_pV dR_opens_2 (c_sees hP hr hE hs hc) lR_52 (rec_R hr) rfl (Nat.le_of_ble_eq_true rfl) rfl (Nat.le_of_ble_eq_true rfl) ?_
  refine ev_is dR_opens_5 rfl (Nat.le_of_ble_eq_true rfl) ?_
  refine ev_il dR_opens_6 rfl (by first | assumption | rfl) ?_
  refine ev_if0 (tgt := 24) dR_opens_7 (by decide) (fun h7 => ?_) (fun h7 => ?_)
  · try simp (disch := omega) only [zcond, nI_ltI, nI_leI, nI_eq, zb0, Classical.not_not, Bool.not_eq_false, Bool.not_eq_true, Nat.not_lt, Nat.not_le] at h7
    refine ev_il dR_opens_24 rfl (by first | assumption | rfl) ?_
    refine ev_if0 (tgt := 38) dR_opens_25 (by decide) (fun h25 => ?_) (fun h25 => ?_)
    · try simp (disch := omega) only [zcond, nI_ltI, nI_leI, nI_eq, zb0, Classical.not_not, Bool.not_eq_false, Bool.not_eq_true, Nat.not_lt, Nat.not_le] at h25
      try rw [mE_N]
      refine ev_il dR_opens_38 rfl (by first | assumption | rfl) ?_
      refine ev_if0 (tgt := 53) dR_opens_39 (by decide) (fun h39 => ?_) (fun h39 => ?_)
      · try simp (disch := omega) only [zcond, nI_ltI, nI_leI, nI_eq, zb0, Classical.not_not, Bool.not_eq_false, Bool.not_eq_true, Nat.not_lt, Nat.not_le] at h39
        refine ev_const (v := nI 0) dR_opens_53 (by decide) ?_
        refine ev_ret dR_opens_54 rfl rfl ?_
        have hq := @pS_iff nT mk s c
        rcases Nat.lt_or_ge dp 12 with hd | hd
        · have hd2 : ¬ 12 ≤ dp := by omega
          first | (exfalso; omega) | (exfalso; simp_all; done) | skip
          all_goals constructor
          all_goals first | (simp_all [pOb]; done) | (simp_all [pOs]; done) | (simp_all [pOb]; rfl) | (simp_all [pOs]; rw [if_neg (by omega)]) | (simp_all [pOb]; rw [show decide (dp < 12) = false from decide_eq_false (by omega)]; rfl)
        · have hd2 : ¬ dp < 12 := by omega
          first | (exfalso; omega) | (exfalso; simp_all; done) | skip
          all_goals constructor
          all_goals first | (simp_all [pOb]; done) | (simp_all [pOs]; done) | (simp_all [pOb]; rfl) | (simp_all [pOs]; rw [if_neg (by omega)]) | (simp_all [pOb]; rw [show decide (dp < 12) = false from decide_eq_false (by omega)]; rfl)
      · try simp (disch := omega) only [zcond, nI_ltI, nI_leI, nI_eq, zb0, Classical.not_not, Bool.not_eq_false, Bool.not_eq_true, Nat.not_lt, Nat.not_le] at h39
        refine ev_al dR_opens_42 rfl (by first | assumption | rfl) ?_
        refine ev_geti dR_opens_43 fR_29 (sh_R hr) ?_
        rw [mE_s]
        refine ev_if0 (tgt := 53) dR_opens_46 (by decide) (fun h46 => ?_) (fun h46 => ?_)
        · try simp (disch := omega) only [zcond, nI_ltI, nI_leI, nI_eq, zb0, Classical.not_not, Bool.not_eq_false, Bool.not_eq_true, Nat.not_lt, Nat.not_le] at h46
          refine ev_const (v := nI 0) dR_opens_53 (by decide) ?_
          refine ev_ret dR_opens_54 rfl rfl ?_
          have hq := @pS_iff nT mk s c
          rcases Nat.lt_or_ge dp 12 with hd | hd
          · have hd2 : ¬ 12 ≤ dp := by omega
            first | (exfalso; omega) | (exfalso; simp_all; done) | skip
            all_goals constructor
            all_goals first | (simp_all [pOb]; done) | (simp_all [pOs]; done) | (simp_all [pOb]; rfl) | (simp_all [pOs]; rw [if_neg (by omega)]) | (simp_all [pOb]; rw [show decide (dp < 12) = false from decide_eq_false (by omega)]; rfl)
          · have hd2 : ¬ dp < 12 := by omega
            first | (exfalso; omega) | (exfalso; simp_all; done) | skip
            all_goals constructor
            all_goals first | (simp_all [pOb]; done) | (simp_all [pOs]; done) | (simp_all [pOb]; rfl) | (simp_all [pOs]; rw [if_neg (by omega)]) | (simp_all [pOb]; rw [show decide (dp < 12) = false from decide_eq_false (by omega)]; rfl)
        · try simp (disch := omega) only [zcond, nI_ltI, nI_leI, nI_eq, zb0, Classical.not_not, Bool.not_eq_false, Bool.not_eq_true, Nat.not_lt, Nat.not_le] at h46
          refine ev_const (v := nI 1) dR_opens_49 (by decide) ?_
          refine ev_goto (tgt := 54) dR_opens_50 (by decide) ?_
          refine ev_ret dR_opens_54 rfl rfl ?_
          have hq := @pS_iff nT mk s c
          rcases Nat.lt_or_ge dp 12 with hd | hd
          · have hd2 : ¬ 12 ≤ dp := by omega
            first | (exfalso; omega) | (exfalso; simp_all; done) | skip
            all_goals constructor
            all_goals first | (simp_all [pOb]; done) | (simp_all [pOs]; done) | (simp_all [pOb]; rfl) | (simp_all [pOs]; rw [if_neg (by omega)]) | (simp_all [pOb]; rw [show decide (dp < 12) = false from decide_eq_false (by omega)]; rfl)
          · have hd2 : ¬ dp < 12 := by omega
            first | (exfalso; omega) | (exfalso; simp_all; done) | skip
            all_goals constructor
            all_goals first | (simp_all [pOb]; done) | (simp_all [pOs]; done) | (simp_all [pOb]; rfl) | (simp_all [pOs]; rw [if_neg (by omega)]) | (simp_all [pOb]; rw [show decide (dp < 12) = false from decide_eq_false (by omega)]; rfl)
    · try simp (disch := omega) only [zcond, nI_ltI, nI_leI, nI_eq, zb0, Classical.not_not, Bool.not_eq_false, Bool.not_eq_true, Nat.not_lt, Nat.not_le] at h25
      refine ev_al dR_opens_28 rfl (by first | assumption | rfl) ?_
      refine ev_stk dR_opens_29 rfl ?_
      refine ev_geti dR_opens_30 fR_25 (sh_R hr) ?_
      rw [mE_n]
      refine ev_const (v := nI 1) dR_opens_33 (by decide) ?_
      first | with_reducible refine ev_addN dR_opens_34 ?_ | refine ev_add dR_opens_34 ?_
      refine ev_puti dR_opens_35 fR_25 fwR_next (sh_R hr) (vp_nar_int _) rfl ?_
      try rw [mE_N]
      refine ev_il dR_opens_38 rfl (by first | assumption | rfl) ?_
      refine ev_if0 (tgt := 53) dR_opens_39 (by decide) (fun h39 => ?_) (fun h39 => ?_)
      · try simp (disch := omega) only [zcond, nI_ltI, nI_leI, nI_eq, zb0, Classical.not_not, Bool.not_eq_false, Bool.not_eq_true, Nat.not_lt, Nat.not_le] at h39
        refine ev_const (v := nI 0) dR_opens_53 (by decide) ?_
        refine ev_ret dR_opens_54 rfl rfl ?_
        have hq := @pS_iff nT mk s c
        rcases Nat.lt_or_ge dp 12 with hd | hd
        · have hd2 : ¬ 12 ≤ dp := by omega
          first | (exfalso; omega) | (exfalso; simp_all; done) | skip
          all_goals constructor
          all_goals first | (simp_all [pOb]; done) | (simp_all [pOs]; done) | (simp_all [pOb]; rfl) | (simp_all [pOs]; rw [if_neg (by omega)]) | (simp_all [pOb]; rw [show decide (dp < 12) = false from decide_eq_false (by omega)]; rfl)
        · have hd2 : ¬ dp < 12 := by omega
          first | (exfalso; omega) | (exfalso; simp_all; done) | skip
          all_goals constructor
          all_goals first | (simp_all [pOb]; done) | (simp_all [pOs]; done) | (simp_all [pOb]; rfl) | (simp_all [pOs]; rw [if_neg (by omega)]) | (simp_all [pOb]; rw [show decide (dp < 12) = false from decide_eq_false (by omega)]; rfl)
      · try simp (disch := omega) only [zcond, nI_ltI, nI_leI, nI_eq, zb0, Classical.not_not, Bool.not_eq_false, Bool.not_eq_true, Nat.not_lt, Nat.not_le] at h39
        refine ev_al dR_opens_42 rfl (by first | assumption | rfl) ?_
        refine ev_geti dR_opens_43 fR_29 (sh_R hr) ?_
        rw [mE_s]
        refine ev_if0 (tgt := 53) dR_opens_46 (by decide) (fun h46 => ?_) (fun h46 => ?_)
        · try simp (disch := omega) only [zcond, nI_ltI, nI_leI, nI_eq, zb0, Classical.not_not, Bool.not_eq_false, Bool.not_eq_true, Nat.not_lt, Nat.not_le] at h46
          refine ev_const (v := nI 0) dR_opens_53 (by decide) ?_
          refine ev_ret dR_opens_54 rfl rfl ?_
          have hq := @pS_iff nT mk s c
          rcases Nat.lt_or_ge dp 12 with hd | hd
          · have hd2 : ¬ 12 ≤ dp := by omega
            first | (exfalso; omega) | (exfalso; simp_all; done) | skip
            all_goals constructor
            all_goals first | (simp_all [pOb]; done) | (simp_all [pOs]; done) | (simp_all [pOb]; rfl) | (simp_all [pOs]; rw [if_neg (by omega)]) | (simp_all [pOb]; rw [show decide (dp < 12) = false from decide_eq_false (by omega)]; rfl)
          · have hd2 : ¬ dp < 12 := by omega
            first | (exfalso; omega) | (exfalso; simp_all; done) | skip
            all_goals constructor
            all_goals first | (simp_all [pOb]; done) | (simp_all [pOs]; done) | (simp_all [pOb]; rfl) | (simp_all [pOs]; rw [if_neg (by omega)]) | (simp_all [pOb]; rw [show decide (dp < 12) = false from decide_eq_false (by omega)]; rfl)
        · try simp (disch := omega) only [zcond, nI_ltI, nI_leI, nI_eq, zb0, Classical.not_not, Bool.not_eq_false, Bool.not_eq_true, Nat.not_lt, Nat.not_le] at h46
          refine ev_const (v := nI 1) dR_opens_49 (by decide) ?_
          refine ev_goto (tgt := 54) dR_opens_50 (by decide) ?_
          refine ev_ret dR_opens_54 rfl rfl ?_
          have hq := @pS_iff nT mk s c
          rcases Nat.lt_or_ge dp 12 with hd | hd
          · have hd2 : ¬ 12 ≤ dp := by omega
            first | (exfalso; omega) | (exfalso; simp_all; done) | skip
            all_goals constructor
            all_goals first | (simp_all [pOb]; done) | (simp_all [pOs]; done) | (simp_all [pOb]; rfl) | (simp_all [pOs]; rw [if_neg (by omega)]) | (simp_all [pOb]; rw [show decide (dp < 12) = false from decide_eq_false (by omega)]; rfl)
          · have hd2 : ¬ dp < 12 := by omega
            first | (exfalso; omega) | (exfalso; simp_all; done) | skip
            all_goals constructor
            all_goals first | (simp_all [pOb]; done) | (simp_all [pOs]; done) | (simp_all [pOb]; rfl) | (simp_all [pOs]; rw [if_neg (by omega)]) | (simp_all [pOb]; rw [show decide (dp < 12) = false from decide_eq_false (by omega)]; rfl)
  · try simp (disch := omega) only [zcond, nI_ltI, nI_leI, nI_eq, zb0, Classical.not_not, Bool.not_eq_false, Bool.not_eq_true, Nat.not_lt, Nat.not_le] at h7
    refine ev_il dR_opens_10 rfl (by first | assumption | rfl) ?_
    refine ev_const (v := nI 12) dR_opens_11 (by decide) ?_
    refine ev_icmp (tgt := 24) dR_opens_13 (by decide) (fun h13 => ?_) (fun h13 => ?_)
    · try simp (disch := omega) only [zcond, nI_ltI, nI_leI, nI_eq, zb0, Classical.not_not, Bool.not_eq_false, Bool.not_eq_true, Nat.not_lt, Nat.not_le] at h13
      refine ev_il dR_opens_24 rfl (by first | assumption | rfl) ?_
      refine ev_if0 (tgt := 38) dR_opens_25 (by decide) (fun h25 => ?_) (fun h25 => ?_)
      · try simp (disch := omega) only [zcond, nI_ltI, nI_leI, nI_eq, zb0, Classical.not_not, Bool.not_eq_false, Bool.not_eq_true, Nat.not_lt, Nat.not_le] at h25
        try rw [mE_N]
        refine ev_il dR_opens_38 rfl (by first | assumption | rfl) ?_
        refine ev_if0 (tgt := 53) dR_opens_39 (by decide) (fun h39 => ?_) (fun h39 => ?_)
        · try simp (disch := omega) only [zcond, nI_ltI, nI_leI, nI_eq, zb0, Classical.not_not, Bool.not_eq_false, Bool.not_eq_true, Nat.not_lt, Nat.not_le] at h39
          refine ev_const (v := nI 0) dR_opens_53 (by decide) ?_
          refine ev_ret dR_opens_54 rfl rfl ?_
          have hq := @pS_iff nT mk s c
          rcases Nat.lt_or_ge dp 12 with hd | hd
          · have hd2 : ¬ 12 ≤ dp := by omega
            first | (exfalso; omega) | (exfalso; simp_all; done) | skip
            all_goals constructor
            all_goals first | (simp_all [pOb]; done) | (simp_all [pOs]; done) | (simp_all [pOb]; rfl) | (simp_all [pOs]; rw [if_neg (by omega)]) | (simp_all [pOb]; rw [show decide (dp < 12) = false from decide_eq_false (by omega)]; rfl)
          · have hd2 : ¬ dp < 12 := by omega
            first | (exfalso; omega) | (exfalso; simp_all; done) | skip
            all_goals constructor
            all_goals first | (simp_all [pOb]; done) | (simp_all [pOs]; done) | (simp_all [pOb]; rfl) | (simp_all [pOs]; rw [if_neg (by omega)]) | (simp_all [pOb]; rw [show decide (dp < 12) = false from decide_eq_false (by omega)]; rfl)
        · try simp (disch := omega) only [zcond, nI_ltI, nI_leI, nI_eq, zb0, Classical.not_not, Bool.not_eq_false, Bool.not_eq_true, Nat.not_lt, Nat.not_le] at h39
          refine ev_al dR_opens_42 rfl (by first | assumption | rfl) ?_
          refine ev_geti dR_opens_43 fR_29 (sh_R hr) ?_
          rw [mE_s]
          refine ev_if0 (tgt := 53) dR_opens_46 (by decide) (fun h46 => ?_) (fun h46 => ?_)
          · try simp (disch := omega) only [zcond, nI_ltI, nI_leI, nI_eq, zb0, Classical.not_not, Bool.not_eq_false, Bool.not_eq_true, Nat.not_lt, Nat.not_le] at h46
            refine ev_const (v := nI 0) dR_opens_53 (by decide) ?_
            refine ev_ret dR_opens_54 rfl rfl ?_
            have hq := @pS_iff nT mk s c
            rcases Nat.lt_or_ge dp 12 with hd | hd
            · have hd2 : ¬ 12 ≤ dp := by omega
              first | (exfalso; omega) | (exfalso; simp_all; done) | skip
              all_goals constructor
              all_goals first | (simp_all [pOb]; done) | (simp_all [pOs]; done) | (simp_all [pOb]; rfl) | (simp_all [pOs]; rw [if_neg (by omega)]) | (simp_all [pOb]; rw [show decide (dp < 12) = false from decide_eq_false (by omega)]; rfl)
            · have hd2 : ¬ dp < 12 := by omega
              first | (exfalso; omega) | (exfalso; simp_all; done) | skip
              all_goals constructor
              all_goals first | (simp_all [pOb]; done) | (simp_all [pOs]; done) | (simp_all [pOb]; rfl) | (simp_all [pOs]; rw [if_neg (by omega)]) | (simp_all [pOb]; rw [show decide (dp < 12) = false from decide_eq_false (by omega)]; rfl)
          · try simp (disch := omega) only [zcond, nI_ltI, nI_leI, nI_eq, zb0, Classical.not_not, Bool.not_eq_false, Bool.not_eq_true, Nat.not_lt, Nat.not_le] at h46
            refine ev_const (v := nI 1) dR_opens_49 (by decide) ?_
            refine ev_goto (tgt := 54) dR_opens_50 (by decide) ?_
            refine ev_ret dR_opens_54 rfl rfl ?_
            have hq := @pS_iff nT mk s c
            rcases Nat.lt_or_ge dp 12 with hd | hd
            · have hd2 : ¬ 12 ≤ dp := by omega
              first | (exfalso; omega) | (exfalso; simp_all; done) | skip
              all_goals constructor
              all_goals first | (simp_all [pOb]; done) | (simp_all [pOs]; done) | (simp_all [pOb]; rfl) | (simp_all [pOs]; rw [if_neg (by omega)]) | (simp_all [pOb]; rw [show decide (dp < 12) = false from decide_eq_false (by omega)]; rfl)
            · have hd2 : ¬ dp < 12 := by omega
              first | (exfalso; omega) | (exfalso; simp_all; done) | skip
              all_goals constructor
              all_goals first | (simp_all [pOb]; done) | (simp_all [pOs]; done) | (simp_all [pOb]; rfl) | (simp_all [pOs]; rw [if_neg (by omega)]) | (simp_all [pOb]; rw [show decide (dp < 12) = false from decide_eq_false (by omega)]; rfl)
      · try simp (disch := omega) only [zcond, nI_ltI, nI_leI, nI_eq, zb0, Classical.not_not, Bool.not_eq_false, Bool.not_eq_true, Nat.not_lt, Nat.not_le] at h25
        refine ev_al dR_opens_28 rfl (by first | assumption | rfl) ?_
        refine ev_stk dR_opens_29 rfl ?_
        refine ev_geti dR_opens_30 fR_25 (sh_R hr) ?_
        rw [mE_n]
        refine ev_const (v := nI 1) dR_opens_33 (by decide) ?_
        first | with_reducible refine ev_addN dR_opens_34 ?_ | refine ev_add dR_opens_34 ?_
        refine ev_puti dR_opens_35 fR_25 fwR_next (sh_R hr) (vp_nar_int _) rfl ?_
        try rw [mE_N]
        refine ev_il dR_opens_38 rfl (by first | assumption | rfl) ?_
        refine ev_if0 (tgt := 53) dR_opens_39 (by decide) (fun h39 => ?_) (fun h39 => ?_)
        · try simp (disch := omega) only [zcond, nI_ltI, nI_leI, nI_eq, zb0, Classical.not_not, Bool.not_eq_false, Bool.not_eq_true, Nat.not_lt, Nat.not_le] at h39
          refine ev_const (v := nI 0) dR_opens_53 (by decide) ?_
          refine ev_ret dR_opens_54 rfl rfl ?_
          have hq := @pS_iff nT mk s c
          rcases Nat.lt_or_ge dp 12 with hd | hd
          · have hd2 : ¬ 12 ≤ dp := by omega
            first | (exfalso; omega) | (exfalso; simp_all; done) | skip
            all_goals constructor
            all_goals first | (simp_all [pOb]; done) | (simp_all [pOs]; done) | (simp_all [pOb]; rfl) | (simp_all [pOs]; rw [if_neg (by omega)]) | (simp_all [pOb]; rw [show decide (dp < 12) = false from decide_eq_false (by omega)]; rfl)
          · have hd2 : ¬ dp < 12 := by omega
            first | (exfalso; omega) | (exfalso; simp_all; done) | skip
            all_goals constructor
            all_goals first | (simp_all [pOb]; done) | (simp_all [pOs]; done) | (simp_all [pOb]; rfl) | (simp_all [pOs]; rw [if_neg (by omega)]) | (simp_all [pOb]; rw [show decide (dp < 12) = false from decide_eq_false (by omega)]; rfl)
        · try simp (disch := omega) only [zcond, nI_ltI, nI_leI, nI_eq, zb0, Classical.not_not, Bool.not_eq_false, Bool.not_eq_true, Nat.not_lt, Nat.not_le] at h39
          refine ev_al dR_opens_42 rfl (by first | assumption | rfl) ?_
          refine ev_geti dR_opens_43 fR_29 (sh_R hr) ?_
          rw [mE_s]
          refine ev_if0 (tgt := 53) dR_opens_46 (by decide) (fun h46 => ?_) (fun h46 => ?_)
          · try simp (disch := omega) only [zcond, nI_ltI, nI_leI, nI_eq, zb0, Classical.not_not, Bool.not_eq_false, Bool.not_eq_true, Nat.not_lt, Nat.not_le] at h46
            refine ev_const (v := nI 0) dR_opens_53 (by decide) ?_
            refine ev_ret dR_opens_54 rfl rfl ?_
            have hq := @pS_iff nT mk s c
            rcases Nat.lt_or_ge dp 12 with hd | hd
            · have hd2 : ¬ 12 ≤ dp := by omega
              first | (exfalso; omega) | (exfalso; simp_all; done) | skip
              all_goals constructor
              all_goals first | (simp_all [pOb]; done) | (simp_all [pOs]; done) | (simp_all [pOb]; rfl) | (simp_all [pOs]; rw [if_neg (by omega)]) | (simp_all [pOb]; rw [show decide (dp < 12) = false from decide_eq_false (by omega)]; rfl)
            · have hd2 : ¬ dp < 12 := by omega
              first | (exfalso; omega) | (exfalso; simp_all; done) | skip
              all_goals constructor
              all_goals first | (simp_all [pOb]; done) | (simp_all [pOs]; done) | (simp_all [pOb]; rfl) | (simp_all [pOs]; rw [if_neg (by omega)]) | (simp_all [pOb]; rw [show decide (dp < 12) = false from decide_eq_false (by omega)]; rfl)
          · try simp (disch := omega) only [zcond, nI_ltI, nI_leI, nI_eq, zb0, Classical.not_not, Bool.not_eq_false, Bool.not_eq_true, Nat.not_lt, Nat.not_le] at h46
            refine ev_const (v := nI 1) dR_opens_49 (by decide) ?_
            refine ev_goto (tgt := 54) dR_opens_50 (by decide) ?_
            refine ev_ret dR_opens_54 rfl rfl ?_
            have hq := @pS_iff nT mk s c
            rcases Nat.lt_or_ge dp 12 with hd | hd
            · have hd2 : ¬ 12 ≤ dp := by omega
              first | (exfalso; omega) | (exfalso; simp_all; done) | skip
              all_goals constructor
              all_goals first | (simp_all [pOb]; done) | (simp_all [pOs]; done) | (simp_all [pOb]; rfl) | (simp_all [pOs]; rw [if_neg (by omega)]) | (simp_all [pOb]; rw [show decide (dp < 12) = false from decide_eq_false (by omega)]; rfl)
            · have hd2 : ¬ dp < 12 := by omega
              first | (exfalso; omega) | (exfalso; simp_all; done) | skip
              all_goals constructor
              all_goals first | (simp_all [pOb]; done) | (simp_all [pOs]; done) | (simp_all [pOb]; rfl) | (simp_all [pOs]; rw [if_neg (by omega)]) | (simp_all [pOb]; rw [show decide (dp < 12) = false from decide_eq_false (by omega)]; rfl)
    · try simp (disch := omega) only [zcond, nI_ltI, nI_leI, nI_eq, zb0, Classical.not_not, Bool.not_eq_false, Bool.not_eq_true, Nat.not_lt, Nat.not_le] at h13
      refine ev_al dR_opens_16 rfl (by first | assumption | rfl) ?_
      refine ev_const (v := nI 1) dR_opens_17 (by decide) ?_
      refine ev_puti dR_opens_18 fR_29 fwR_stopped (sh_R hr) rfl rfl ?_
      rw [mE_S1]
      refine ev_goto (tgt := 38) dR_opens_21 (by decide) ?_
      try rw [mE_N]
      refine ev_il dR_opens_38 rfl (by first | assumption | rfl) ?_
      refine ev_if0 (tgt := 53) dR_opens_39 (by decide) (fun h39 => ?_) (fun h39 => ?_)
      · try simp (disch := omega) only [zcond, nI_ltI, nI_leI, nI_eq, zb0, Classical.not_not, Bool.not_eq_false, Bool.not_eq_true, Nat.not_lt, Nat.not_le] at h39
        refine ev_const (v := nI 0) dR_opens_53 (by decide) ?_
        refine ev_ret dR_opens_54 rfl rfl ?_
        have hq := @pS_iff nT mk s c
        rcases Nat.lt_or_ge dp 12 with hd | hd
        · have hd2 : ¬ 12 ≤ dp := by omega
          first | (exfalso; omega) | (exfalso; simp_all; done) | skip
          all_goals constructor
          all_goals first | (simp_all [pOb]; done) | (simp_all [pOs]; done) | (simp_all [pOb]; rfl) | (simp_all [pOs]; rw [if_neg (by omega)]) | (simp_all [pOb]; rw [show decide (dp < 12) = false from decide_eq_false (by omega)]; rfl)
        · have hd2 : ¬ dp < 12 := by omega
          first | (exfalso; omega) | (exfalso; simp_all; done) | skip
          all_goals constructor
          all_goals first | (simp_all [pOb]; done) | (simp_all [pOs]; done) | (simp_all [pOb]; rfl) | (simp_all [pOs]; rw [if_neg (by omega)]) | (simp_all [pOb]; rw [show decide (dp < 12) = false from decide_eq_false (by omega)]; rfl)
      · try simp (disch := omega) only [zcond, nI_ltI, nI_leI, nI_eq, zb0, Classical.not_not, Bool.not_eq_false, Bool.not_eq_true, Nat.not_lt, Nat.not_le] at h39
        refine ev_al dR_opens_42 rfl (by first | assumption | rfl) ?_
        refine ev_geti dR_opens_43 fR_29 (sh_R hr) ?_
        rw [mE_s]
        refine ev_if0 (tgt := 53) dR_opens_46 (by decide) (fun h46 => ?_) (fun h46 => ?_)
        · try simp (disch := omega) only [zcond, nI_ltI, nI_leI, nI_eq, zb0, Classical.not_not, Bool.not_eq_false, Bool.not_eq_true, Nat.not_lt, Nat.not_le] at h46
          refine ev_const (v := nI 0) dR_opens_53 (by decide) ?_
          refine ev_ret dR_opens_54 rfl rfl ?_
          have hq := @pS_iff nT mk s c
          rcases Nat.lt_or_ge dp 12 with hd | hd
          · have hd2 : ¬ 12 ≤ dp := by omega
            first | (exfalso; omega) | (exfalso; simp_all; done) | skip
            all_goals constructor
            all_goals first | (simp_all [pOb]; done) | (simp_all [pOs]; done) | (simp_all [pOb]; rfl) | (simp_all [pOs]; rw [if_neg (by omega)]) | (simp_all [pOb]; rw [show decide (dp < 12) = false from decide_eq_false (by omega)]; rfl)
          · have hd2 : ¬ dp < 12 := by omega
            first | (exfalso; omega) | (exfalso; simp_all; done) | skip
            all_goals constructor
            all_goals first | (simp_all [pOb]; done) | (simp_all [pOs]; done) | (simp_all [pOb]; rfl) | (simp_all [pOs]; rw [if_neg (by omega)]) | (simp_all [pOb]; rw [show decide (dp < 12) = false from decide_eq_false (by omega)]; rfl)
        · try simp (disch := omega) only [zcond, nI_ltI, nI_leI, nI_eq, zb0, Classical.not_not, Bool.not_eq_false, Bool.not_eq_true, Nat.not_lt, Nat.not_le] at h46
          refine ev_const (v := nI 1) dR_opens_49 (by decide) ?_
          refine ev_goto (tgt := 54) dR_opens_50 (by decide) ?_
          refine ev_ret dR_opens_54 rfl rfl ?_
          have hq := @pS_iff nT mk s c
          rcases Nat.lt_or_ge dp 12 with hd | hd
          · have hd2 : ¬ 12 ≤ dp := by omega
            first | (exfalso; omega) | (exfalso; simp_all; done) | skip
            all_goals constructor
            all_goals first | (simp_all [pOb]; done) | (simp_all [pOs]; done) | (simp_all [pOb]; rfl) | (simp_all [pOs]; rw [if_neg (by omega)]) | (simp_all [pOb]; rw [show decide (dp < 12) = false from decide_eq_false (by omega)]; rfl)
          · have hd2 : ¬ dp < 12 := by omega
            first | (exfalso; omega) | (exfalso; simp_all; done) | skip
            all_goals constructor
            all_goals first | (simp_all [pOb]; done) | (simp_all [pOs]; done) | (simp_all [pOb]; rfl) | (simp_all [pOs]; rw [if_neg (by omega)]) | (simp_all [pOb]; rw [show decide (dp < 12) = false from decide_eq_false (by omega)]; rfl)
end
