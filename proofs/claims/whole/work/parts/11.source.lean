/- the class's Source, leaves (rows laid by program) -/
/-- the text t of n characters stands in the reading r -/
def Txt (M : zM) (r : Nat) (t : Nat → Nat) (n : Nat) : Prop := M.1 (r + 1) 1 = nI n ∧ n ≤ 160 ∧ ∀ i, i < n → M.1 (r + 3) i = nI (t i) ∧ t i < 128
section
variable {Lx : Nat} {xs : Nat → Int32} {d : Nat} {M : zM} {n b r : Nat}
set_option maxRecDepth 100000 in
set_option maxHeartbeats 4000000 in
theorem c_isLetter {c : Nat} (hc : c < 65536) : Pu Lx xs d mS_isLetter [.int (nI c)] M (nI (lLet c).toNat) := by
  unfold Pu Ct
  refine ev_il dS_isLetter_0 rfl (by first | assumption | rfl) ?_
  refine ev_const (v := nI 97) dS_isLetter_1 (by decide) ?_
  refine ev_icmp (tgt := 16) dS_isLetter_3 (by decide) (fun h3 => ?_) (fun h3 => ?_)
  · try simp (disch := omega) only [zcond, nI_ltI, nI_leI, nI_eq, zb0, Classical.not_not, Bool.not_eq_false, Nat.not_lt, Nat.not_le] at h3
    refine ev_const (v := nI 0) dS_isLetter_16 (by decide) ?_
    refine ev_ret dS_isLetter_17 rfl rfl ?_
    first | exact ⟨by rw [show lLet c = true by (simp [lLet]; omega)]; rfl, rfl⟩ | exact ⟨by rw [show lLet c = false by (simp [lLet]; omega)]; rfl, rfl⟩
  · try simp (disch := omega) only [zcond, nI_ltI, nI_leI, nI_eq, zb0, Classical.not_not, Bool.not_eq_false, Nat.not_lt, Nat.not_le] at h3
    refine ev_il dS_isLetter_6 rfl (by first | assumption | rfl) ?_
    refine ev_const (v := nI 122) dS_isLetter_7 (by decide) ?_
    refine ev_icmp (tgt := 16) dS_isLetter_9 (by decide) (fun h9 => ?_) (fun h9 => ?_)
    · try simp (disch := omega) only [zcond, nI_ltI, nI_leI, nI_eq, zb0, Classical.not_not, Bool.not_eq_false, Nat.not_lt, Nat.not_le] at h9
      refine ev_const (v := nI 0) dS_isLetter_16 (by decide) ?_
      refine ev_ret dS_isLetter_17 rfl rfl ?_
      first | exact ⟨by rw [show lLet c = true by (simp [lLet]; omega)]; rfl, rfl⟩ | exact ⟨by rw [show lLet c = false by (simp [lLet]; omega)]; rfl, rfl⟩
    · try simp (disch := omega) only [zcond, nI_ltI, nI_leI, nI_eq, zb0, Classical.not_not, Bool.not_eq_false, Nat.not_lt, Nat.not_le] at h9
      refine ev_const (v := nI 1) dS_isLetter_12 (by decide) ?_
      refine ev_goto (tgt := 17) dS_isLetter_13 (by decide) ?_
      refine ev_ret dS_isLetter_17 rfl rfl ?_
      first | exact ⟨by rw [show lLet c = true by (simp [lLet]; omega)]; rfl, rfl⟩ | exact ⟨by rw [show lLet c = false by (simp [lLet]; omega)]; rfl, rfl⟩
set_option maxRecDepth 100000 in
set_option maxHeartbeats 4000000 in
theorem c_isDigit {c : Nat} (hc : c < 65536) : Pu Lx xs d mS_isDigit [.int (nI c)] M (nI (lDig c).toNat) := by
  unfold Pu Ct
  refine ev_il dS_isDigit_0 rfl (by first | assumption | rfl) ?_
  refine ev_const (v := nI 48) dS_isDigit_1 (by decide) ?_
  refine ev_icmp (tgt := 16) dS_isDigit_3 (by decide) (fun h3 => ?_) (fun h3 => ?_)
  · try simp (disch := omega) only [zcond, nI_ltI, nI_leI, nI_eq, zb0, Classical.not_not, Bool.not_eq_false, Nat.not_lt, Nat.not_le] at h3
    refine ev_const (v := nI 0) dS_isDigit_16 (by decide) ?_
    refine ev_ret dS_isDigit_17 rfl rfl ?_
    first | exact ⟨by rw [show lDig c = true by (simp [lDig]; omega)]; rfl, rfl⟩ | exact ⟨by rw [show lDig c = false by (simp [lDig]; omega)]; rfl, rfl⟩
  · try simp (disch := omega) only [zcond, nI_ltI, nI_leI, nI_eq, zb0, Classical.not_not, Bool.not_eq_false, Nat.not_lt, Nat.not_le] at h3
    refine ev_il dS_isDigit_6 rfl (by first | assumption | rfl) ?_
    refine ev_const (v := nI 57) dS_isDigit_7 (by decide) ?_
    refine ev_icmp (tgt := 16) dS_isDigit_9 (by decide) (fun h9 => ?_) (fun h9 => ?_)
    · try simp (disch := omega) only [zcond, nI_ltI, nI_leI, nI_eq, zb0, Classical.not_not, Bool.not_eq_false, Nat.not_lt, Nat.not_le] at h9
      refine ev_const (v := nI 0) dS_isDigit_16 (by decide) ?_
      refine ev_ret dS_isDigit_17 rfl rfl ?_
      first | exact ⟨by rw [show lDig c = true by (simp [lDig]; omega)]; rfl, rfl⟩ | exact ⟨by rw [show lDig c = false by (simp [lDig]; omega)]; rfl, rfl⟩
    · try simp (disch := omega) only [zcond, nI_ltI, nI_leI, nI_eq, zb0, Classical.not_not, Bool.not_eq_false, Nat.not_lt, Nat.not_le] at h9
      refine ev_const (v := nI 1) dS_isDigit_12 (by decide) ?_
      refine ev_goto (tgt := 17) dS_isDigit_13 (by decide) ?_
      refine ev_ret dS_isDigit_17 rfl rfl ?_
      first | exact ⟨by rw [show lDig c = true by (simp [lDig]; omega)]; rfl, rfl⟩ | exact ⟨by rw [show lDig c = false by (simp [lDig]; omega)]; rfl, rfl⟩
set_option maxRecDepth 100000 in
set_option maxHeartbeats 4000000 in
theorem c_packed {p e k : Nat} (h : p ≤ e) : Pu Lx xs d mS_packed [.int (nI p), .int (nI e), .int (nI k)] M (nI (p * 2048 + (e - p) * 8 + k)) := by
  unfold Pu Ct
  refine ev_il dS_packed_0 rfl (by first | assumption | rfl) ?_
  refine ev_const (v := nI 2048) dS_packed_1 (by decide) ?_
  first | with_reducible refine ev_mulN dS_packed_4 ?_ | refine ev_mul dS_packed_4 ?_
  refine ev_il dS_packed_5 rfl (by first | assumption | rfl) ?_
  refine ev_il dS_packed_6 rfl (by first | assumption | rfl) ?_
  first | with_reducible refine ev_subN dS_packed_7 (by omega) ?_ | refine ev_sub dS_packed_7 ?_
  refine ev_const (v := nI 8) dS_packed_8 (by decide) ?_
  first | with_reducible refine ev_mulN dS_packed_10 ?_ | refine ev_mul dS_packed_10 ?_
  first | with_reducible refine ev_addN dS_packed_11 ?_ | refine ev_add dS_packed_11 ?_
  refine ev_il dS_packed_12 rfl (by first | assumption | rfl) ?_
  first | with_reducible refine ev_addN dS_packed_13 ?_ | refine ev_add dS_packed_13 ?_
  refine ev_ret dS_packed_14 rfl rfl ?_
  exact ⟨rfl, rfl⟩
set_option maxRecDepth 100000 in
set_option maxHeartbeats 4000000 in
theorem c_placeOf {k v : Nat} (hP : M.2.1 = zP0 n b) (hr : zR r) (hk : k < 160) (hv : M.1 (r + 4) k = nI v) (hv2 : v < 2 ^ 31) : Pu Lx xs d mS_placeOf [.ref (r + 1), .int (nI k)] M (nI (v / 2048)) := by
  unfold Pu Ct
  refine ev_al dS_placeOf_0 rfl (by first | assumption | rfl) ?_
  refine ev_getrP dS_placeOf_1 fS_15 (sh_S hr) (zq hP (pt_found hr)) ?_
  refine ev_il dS_placeOf_4 rfl (by first | assumption | rfl) ?_
  refine ev_aldN dS_placeOf_5 rfl (sh_found hr) (by omega) ?_
  rw [hv]
  refine ev_const (v := nI 2048) dS_placeOf_6 (by decide) ?_
  refine ev_divN dS_placeOf_9 (by omega) (by omega) (by omega) ?_
  refine ev_ret dS_placeOf_10 rfl rfl ?_
  exact ⟨rfl, rfl⟩
set_option maxRecDepth 100000 in
set_option maxHeartbeats 4000000 in
theorem c_lengthOf {k v : Nat} (hP : M.2.1 = zP0 n b) (hr : zR r) (hk : k < 160) (hv : M.1 (r + 4) k = nI v) (hv2 : v < 2 ^ 31) : Pu Lx xs d mS_lengthOf [.ref (r + 1), .int (nI k)] M (nI (v % 2048 / 8)) := by
  unfold Pu Ct
  refine ev_al dS_lengthOf_0 rfl (by first | assumption | rfl) ?_
  refine ev_getrP dS_lengthOf_1 fS_15 (sh_S hr) (zq hP (pt_found hr)) ?_
  refine ev_il dS_lengthOf_4 rfl (by first | assumption | rfl) ?_
  refine ev_aldN dS_lengthOf_5 rfl (sh_found hr) (by omega) ?_
  rw [hv]
  refine ev_const (v := nI 2048) dS_lengthOf_6 (by decide) ?_
  refine ev_remN dS_lengthOf_9 (by omega) (by omega) (by omega) ?_
  refine ev_const (v := nI 8) dS_lengthOf_10 (by decide) ?_
  refine ev_divN dS_lengthOf_12 (by omega) (by omega) (by omega) ?_
  refine ev_ret dS_lengthOf_13 rfl rfl ?_
  exact ⟨rfl, rfl⟩
set_option maxRecDepth 100000 in
set_option maxHeartbeats 4000000 in
theorem c_placeBehind {k v : Nat} (hP : M.2.1 = zP0 n b) (hr : zR r) (hk : k < 160) (hv : M.1 (r + 4) k = nI v) (hv2 : v < 2 ^ 31) : Pu Lx xs (d + 1) mS_placeBehind [.ref (r + 1), .int (nI k)] M (nI (v / 2048 + v % 2048 / 8)) := by
  unfold Pu Ct
  refine ev_al dS_placeBehind_0 rfl (by first | assumption | rfl) ?_
  refine ev_il dS_placeBehind_1 rfl (by first | assumption | rfl) ?_
  refine ev_pV dS_placeBehind_2 (c_placeOf hP hr hk hv hv2) lS_74 (rec_S hr) rfl (Nat.le_of_ble_eq_true rfl) rfl (Nat.le_of_ble_eq_true rfl) ?_
  refine ev_al dS_placeBehind_5 rfl (by first | assumption | rfl) ?_
  refine ev_il dS_placeBehind_6 rfl (by first | assumption | rfl) ?_
  refine ev_pV dS_placeBehind_7 (c_lengthOf hP hr hk hv hv2) lS_77 (rec_S hr) rfl (Nat.le_of_ble_eq_true rfl) rfl (Nat.le_of_ble_eq_true rfl) ?_
  first | with_reducible refine ev_addN dS_placeBehind_10 ?_ | refine ev_add dS_placeBehind_10 ?_
  refine ev_ret dS_placeBehind_11 rfl rfl ?_
  exact ⟨rfl, rfl⟩
set_option maxRecDepth 100000 in
set_option maxHeartbeats 4000000 in
theorem l_passBlanks {t : Nat → Nat} {e : Nat} (hP : M.2.1 = zP0 n b) (hr : zR r) (hT : Txt M r t e) {R : Option Int32 → zM → Prop} : ∀ (f p : Nat) (cm : Bool) (L : Nat → Value), p + f = e → L 0 = .ref (r + 1) → L 2 = .int (nI cm.toNat) → L 3 = .int (nI p) → R (some (nI (lBl t f p cm))) M → Ev Lx xs d mS_passBlanks 4 L [] M (zpost mS_passBlanks R) := by
  have he := hT.2.1
  intro f
  induction f with
  | zero =>
    intro p cm L hpe hL0 hL2 hL3 hR
    rw [lBl] at hR
    refine ev_il dS_passBlanks_4 rfl (by first | assumption | rfl) ?_
    refine ev_al dS_passBlanks_5 rfl (by first | assumption | rfl) ?_
    refine ev_geti dS_passBlanks_6 fS_28 (sh_S hr) ?_
    rw [hT.1]
    refine ev_icmp (tgt := 63) dS_passBlanks_9 (by decide) (fun h9 => ?_) (fun h9 => ?_)
    · try simp (disch := omega) only [zcond, nI_ltI, nI_leI, nI_eq, zb0, Classical.not_not, Bool.not_eq_false, Nat.not_lt, Nat.not_le] at h9
      refine ev_al dS_passBlanks_63 rfl (by first | assumption | rfl) ?_
      refine ev_geti dS_passBlanks_64 fS_28 (sh_S hr) ?_
      rw [hT.1]
      refine ev_ret dS_passBlanks_67 rfl rfl ?_
      rw [show e = p by omega]; exact hR
    · first | omega | (simp (disch := omega) only [zcond, nI_ltI, nI_leI, nI_eq] at h9; omega)
  | succ f ih =>
    intro p cm L hpe hL0 hL2 hL3 hR
    rw [lBl] at hR
    refine ev_il dS_passBlanks_4 rfl (by first | assumption | rfl) ?_
    refine ev_al dS_passBlanks_5 rfl (by first | assumption | rfl) ?_
    refine ev_geti dS_passBlanks_6 fS_28 (sh_S hr) ?_
    rw [hT.1]
    refine ev_icmp (tgt := 63) dS_passBlanks_9 (by decide) (fun h9 => ?_) (fun h9 => ?_)
    · first | omega | (simp (disch := omega) only [zcond, nI_ltI, nI_leI, nI_eq] at h9; omega)
    · try simp (disch := omega) only [zcond, nI_ltI, nI_leI, nI_eq, zb0, Classical.not_not, Bool.not_eq_false, Nat.not_lt, Nat.not_le] at h9
      refine ev_al dS_passBlanks_12 rfl (by first | assumption | rfl) ?_
      refine ev_getrP dS_passBlanks_13 fS_9 (sh_S hr) (zq hP (pt_chars hr)) ?_
      refine ev_il dS_passBlanks_16 rfl (by first | assumption | rfl) ?_
      refine ev_aldN dS_passBlanks_17 rfl (sh_chars hr) (by omega) ?_
      rw [(hT.2.2 p (by omega)).1]
      have htp := (hT.2.2 p (by omega)).2
      refine ev_is dS_passBlanks_18 rfl (Nat.le_of_ble_eq_true rfl) ?_
      refine ev_il dS_passBlanks_20 rfl (by first | assumption | rfl) ?_
      refine ev_const (v := nI 10) dS_passBlanks_22 (by decide) ?_
      refine ev_icmp (tgt := 32) dS_passBlanks_24 (by decide) (fun h24 => ?_) (fun h24 => ?_)
      · try simp (disch := omega) only [zcond, nI_ltI, nI_leI, nI_eq, zb0, Classical.not_not, Bool.not_eq_false, Nat.not_lt, Nat.not_le] at h24
        refine ev_il dS_passBlanks_32 rfl (by first | assumption | rfl) ?_
        refine ev_const (v := nI 35) dS_passBlanks_34 (by decide) ?_
        refine ev_icmp (tgt := 44) dS_passBlanks_36 (by decide) (fun h36 => ?_) (fun h36 => ?_)
        · try simp (disch := omega) only [zcond, nI_ltI, nI_leI, nI_eq, zb0, Classical.not_not, Bool.not_eq_false, Nat.not_lt, Nat.not_le] at h36
          refine ev_il dS_passBlanks_44 rfl (by first | assumption | rfl) ?_
          refine ev_const (v := nI 32) dS_passBlanks_46 (by decide) ?_
          refine ev_icmp (tgt := 57) dS_passBlanks_48 (by decide) (fun h48 => ?_) (fun h48 => ?_)
          · try simp (disch := omega) only [zcond, nI_ltI, nI_leI, nI_eq, zb0, Classical.not_not, Bool.not_eq_false, Nat.not_lt, Nat.not_le] at h48
            refine ev_inc1 dS_passBlanks_57 (by first | assumption | rfl) ?_
            refine ev_goto (tgt := 4) dS_passBlanks_60 (by decide) ?_
            first | exact ih (p + 1) cm _ (by omega) (by first | assumption | rfl) (by first | assumption | rfl) rfl (by (repeat' split at hR) <;> first | exact hR | (exfalso; omega) | (exfalso; simp_all)) | exact ih (p + 1) false _ (by omega) (by first | assumption | rfl) (by first | assumption | rfl) rfl (by (repeat' split at hR) <;> first | exact hR | (exfalso; omega) | (exfalso; simp_all)) | exact ih (p + 1) true _ (by omega) (by first | assumption | rfl) (by first | assumption | rfl) rfl (by (repeat' split at hR) <;> first | exact hR | (exfalso; omega) | (exfalso; simp_all))
          · try simp (disch := omega) only [zcond, nI_ltI, nI_leI, nI_eq, zb0, Classical.not_not, Bool.not_eq_false, Nat.not_lt, Nat.not_le] at h48
            refine ev_il dS_passBlanks_51 rfl (by first | assumption | rfl) ?_
            refine ev_if0 (tgt := 57) dS_passBlanks_52 (by decide) (fun h52 => ?_) (fun h52 => ?_)
            · cases cm <;> simp (disch := omega) [zcond, nI_eq] at h52
              refine ev_inc1 dS_passBlanks_57 (by first | assumption | rfl) ?_
              refine ev_goto (tgt := 4) dS_passBlanks_60 (by decide) ?_
              first | exact ih (p + 1) cm _ (by omega) (by first | assumption | rfl) (by first | assumption | rfl) rfl (by (repeat' split at hR) <;> first | exact hR | (exfalso; omega) | (exfalso; simp_all)) | exact ih (p + 1) false _ (by omega) (by first | assumption | rfl) (by first | assumption | rfl) rfl (by (repeat' split at hR) <;> first | exact hR | (exfalso; omega) | (exfalso; simp_all)) | exact ih (p + 1) true _ (by omega) (by first | assumption | rfl) (by first | assumption | rfl) rfl (by (repeat' split at hR) <;> first | exact hR | (exfalso; omega) | (exfalso; simp_all))
            · cases cm <;> simp (disch := omega) [zcond, nI_eq] at h52
              refine ev_il dS_passBlanks_55 rfl (by first | assumption | rfl) ?_
              refine ev_ret dS_passBlanks_56 rfl rfl ?_
              exact (by (repeat' split at hR) <;> first | exact hR | (exfalso; omega) | (exfalso; simp_all))
        · try simp (disch := omega) only [zcond, nI_ltI, nI_leI, nI_eq, zb0, Classical.not_not, Bool.not_eq_false, Nat.not_lt, Nat.not_le] at h36
          refine ev_const (v := nI 1) dS_passBlanks_39 (by decide) ?_
          refine ev_is dS_passBlanks_40 rfl (Nat.le_of_ble_eq_true rfl) ?_
          refine ev_goto (tgt := 57) dS_passBlanks_41 (by decide) ?_
          refine ev_inc1 dS_passBlanks_57 (by first | assumption | rfl) ?_
          refine ev_goto (tgt := 4) dS_passBlanks_60 (by decide) ?_
          first | exact ih (p + 1) cm _ (by omega) (by first | assumption | rfl) (by first | assumption | rfl) rfl (by (repeat' split at hR) <;> first | exact hR | (exfalso; omega) | (exfalso; simp_all)) | exact ih (p + 1) false _ (by omega) (by first | assumption | rfl) (by first | assumption | rfl) rfl (by (repeat' split at hR) <;> first | exact hR | (exfalso; omega) | (exfalso; simp_all)) | exact ih (p + 1) true _ (by omega) (by first | assumption | rfl) (by first | assumption | rfl) rfl (by (repeat' split at hR) <;> first | exact hR | (exfalso; omega) | (exfalso; simp_all))
      · try simp (disch := omega) only [zcond, nI_ltI, nI_leI, nI_eq, zb0, Classical.not_not, Bool.not_eq_false, Nat.not_lt, Nat.not_le] at h24
        refine ev_const (v := nI 0) dS_passBlanks_27 (by decide) ?_
        refine ev_is dS_passBlanks_28 rfl (Nat.le_of_ble_eq_true rfl) ?_
        refine ev_goto (tgt := 57) dS_passBlanks_29 (by decide) ?_
        refine ev_inc1 dS_passBlanks_57 (by first | assumption | rfl) ?_
        refine ev_goto (tgt := 4) dS_passBlanks_60 (by decide) ?_
        first | exact ih (p + 1) cm _ (by omega) (by first | assumption | rfl) (by first | assumption | rfl) rfl (by (repeat' split at hR) <;> first | exact hR | (exfalso; omega) | (exfalso; simp_all)) | exact ih (p + 1) false _ (by omega) (by first | assumption | rfl) (by first | assumption | rfl) rfl (by (repeat' split at hR) <;> first | exact hR | (exfalso; omega) | (exfalso; simp_all)) | exact ih (p + 1) true _ (by omega) (by first | assumption | rfl) (by first | assumption | rfl) rfl (by (repeat' split at hR) <;> first | exact hR | (exfalso; omega) | (exfalso; simp_all))
set_option maxRecDepth 100000 in
set_option maxHeartbeats 4000000 in
theorem c_passBlanks {t : Nat → Nat} {e p : Nat} (hP : M.2.1 = zP0 n b) (hr : zR r) (hT : Txt M r t e) (hp : p ≤ e) : Pu Lx xs d mS_passBlanks [.ref (r + 1), .int (nI p)] M (nI (lBl t (e - p) p false)) := by
  unfold Pu Ct
  refine ev_const (v := nI 0) dS_passBlanks_0 (by decide) ?_
  refine ev_is dS_passBlanks_1 rfl (Nat.le_of_ble_eq_true rfl) ?_
  refine ev_il dS_passBlanks_2 rfl (by first | assumption | rfl) ?_
  refine ev_is dS_passBlanks_3 rfl (Nat.le_of_ble_eq_true rfl) ?_
  exact l_passBlanks hP hr hT (e - p) p false _ (by omega) rfl rfl rfl ⟨rfl, rfl⟩
set_option maxRecDepth 100000 in
set_option maxHeartbeats 4000000 in
theorem l_behindRun_l {t : Nat → Nat} {e : Nat} (hP : M.2.1 = zP0 n b) (hr : zR r) (hT : Txt M r t e) {R : Option Int32 → zM → Prop} : ∀ (f p : Nat) (L : Nat → Value), p + f = e → L 0 = .ref (r + 1) → L 2 = .int (nI 1) → L 3 = .int (nI p) → R (some (nI (lRun lLet t f p))) M → Ev Lx xs (d + 1) mS_behindRun 2 L [] M (zpost mS_behindRun R) := by
  have he := hT.2.1
  intro f
  induction f with
  | zero =>
    intro p L hpe hL0 hL2 hL3 hR
    rw [lRun] at hR
    refine ev_il dS_behindRun_2 rfl (by first | assumption | rfl) ?_
    refine ev_al dS_behindRun_3 rfl (by first | assumption | rfl) ?_
    refine ev_geti dS_behindRun_4 fS_28 (sh_S hr) ?_
    rw [hT.1]
    refine ev_icmp (tgt := 47) dS_behindRun_7 (by decide) (fun h7 => ?_) (fun h7 => ?_)
    · try simp (disch := omega) only [zcond, nI_ltI, nI_leI, nI_eq, zb0, Classical.not_not, Bool.not_eq_false, Nat.not_lt, Nat.not_le] at h7
      refine ev_il dS_behindRun_47 rfl (by first | assumption | rfl) ?_
      refine ev_ret dS_behindRun_48 rfl rfl ?_
      exact hR
    · first | omega | (simp (disch := omega) only [zcond, nI_ltI, nI_leI, nI_eq] at h7; omega)
  | succ f ih =>
    intro p L hpe hL0 hL2 hL3 hR
    rw [lRun] at hR
    refine ev_il dS_behindRun_2 rfl (by first | assumption | rfl) ?_
    refine ev_al dS_behindRun_3 rfl (by first | assumption | rfl) ?_
    refine ev_geti dS_behindRun_4 fS_28 (sh_S hr) ?_
    rw [hT.1]
    refine ev_icmp (tgt := 47) dS_behindRun_7 (by decide) (fun h7 => ?_) (fun h7 => ?_)
    · first | omega | (simp (disch := omega) only [zcond, nI_ltI, nI_leI, nI_eq] at h7; omega)
    · try simp (disch := omega) only [zcond, nI_ltI, nI_leI, nI_eq, zb0, Classical.not_not, Bool.not_eq_false, Nat.not_lt, Nat.not_le] at h7
      refine ev_il dS_behindRun_10 rfl (by first | assumption | rfl) ?_
      refine ev_if0 (tgt := 29) dS_behindRun_11 (by decide) (fun h11 => ?_) (fun h11 => ?_)
      · exact absurd h11 (show ¬ nI 1 = nI 0 by decide)
      · try simp (disch := omega) only [zcond, nI_ltI, nI_leI, nI_eq, zb0, Classical.not_not, Bool.not_eq_false, Nat.not_lt, Nat.not_le] at h11
        refine ev_al dS_behindRun_14 rfl (by first | assumption | rfl) ?_
        refine ev_getrP dS_behindRun_15 fS_9 (sh_S hr) (zq hP (pt_chars hr)) ?_
        refine ev_il dS_behindRun_18 rfl (by first | assumption | rfl) ?_
        refine ev_aldN dS_behindRun_19 rfl (sh_chars hr) (by omega) ?_
        rw [(hT.2.2 p (by omega)).1]
        have htp := (hT.2.2 p (by omega)).2
        refine ev_pS dS_behindRun_20 (c_isLetter (by omega)) lS_52 rfl (Nat.le_of_ble_eq_true rfl) rfl (Nat.le_of_ble_eq_true rfl) ?_
        refine ev_if0 (tgt := 47) dS_behindRun_23 (by decide) (fun h23 => ?_) (fun h23 => ?_)
        · try simp (disch := omega) only [zcond, nI_ltI, nI_leI, nI_eq, zb0, Classical.not_not, Bool.not_eq_false, Nat.not_lt, Nat.not_le] at h23
          refine ev_il dS_behindRun_47 rfl (by first | assumption | rfl) ?_
          refine ev_ret dS_behindRun_48 rfl rfl ?_
          exact (by (repeat' split at hR) <;> first | exact hR | (exfalso; omega) | (exfalso; simp_all))
        · try simp (disch := omega) only [zcond, nI_ltI, nI_leI, nI_eq, zb0, Classical.not_not, Bool.not_eq_false, Nat.not_lt, Nat.not_le] at h23
          refine ev_goto (tgt := 41) dS_behindRun_26 (by decide) ?_
          refine ev_inc1 dS_behindRun_41 (by first | assumption | rfl) ?_
          refine ev_goto (tgt := 2) dS_behindRun_44 (by decide) ?_
          exact ih (p + 1) _ (by omega) (by first | assumption | rfl) (by first | assumption | rfl) rfl (by (repeat' split at hR) <;> first | exact hR | (exfalso; omega) | (exfalso; simp_all))
set_option maxRecDepth 100000 in
set_option maxHeartbeats 4000000 in
theorem c_behindRun_l {t : Nat → Nat} {e p : Nat} (hP : M.2.1 = zP0 n b) (hr : zR r) (hT : Txt M r t e) (hp : p ≤ e) : Pu Lx xs (d + 1) mS_behindRun [.ref (r + 1), .int (nI p), .int (nI 1)] M (nI (lRun lLet t (e - p) p)) := by
  unfold Pu Ct
  refine ev_il dS_behindRun_0 rfl (by first | assumption | rfl) ?_
  refine ev_is dS_behindRun_1 rfl (Nat.le_of_ble_eq_true rfl) ?_
  exact l_behindRun_l hP hr hT (e - p) p _ (by omega) rfl rfl rfl ⟨rfl, rfl⟩
set_option maxRecDepth 100000 in
set_option maxHeartbeats 4000000 in
theorem l_behindRun_d {t : Nat → Nat} {e : Nat} (hP : M.2.1 = zP0 n b) (hr : zR r) (hT : Txt M r t e) {R : Option Int32 → zM → Prop} : ∀ (f p : Nat) (L : Nat → Value), p + f = e → L 0 = .ref (r + 1) → L 2 = .int (nI 0) → L 3 = .int (nI p) → R (some (nI (lRun lDig t f p))) M → Ev Lx xs (d + 1) mS_behindRun 2 L [] M (zpost mS_behindRun R) := by
  have he := hT.2.1
  intro f
  induction f with
  | zero =>
    intro p L hpe hL0 hL2 hL3 hR
    rw [lRun] at hR
    refine ev_il dS_behindRun_2 rfl (by first | assumption | rfl) ?_
    refine ev_al dS_behindRun_3 rfl (by first | assumption | rfl) ?_
    refine ev_geti dS_behindRun_4 fS_28 (sh_S hr) ?_
    rw [hT.1]
    refine ev_icmp (tgt := 47) dS_behindRun_7 (by decide) (fun h7 => ?_) (fun h7 => ?_)
    · try simp (disch := omega) only [zcond, nI_ltI, nI_leI, nI_eq, zb0, Classical.not_not, Bool.not_eq_false, Nat.not_lt, Nat.not_le] at h7
      refine ev_il dS_behindRun_47 rfl (by first | assumption | rfl) ?_
      refine ev_ret dS_behindRun_48 rfl rfl ?_
      exact hR
    · first | omega | (simp (disch := omega) only [zcond, nI_ltI, nI_leI, nI_eq] at h7; omega)
  | succ f ih =>
    intro p L hpe hL0 hL2 hL3 hR
    rw [lRun] at hR
    refine ev_il dS_behindRun_2 rfl (by first | assumption | rfl) ?_
    refine ev_al dS_behindRun_3 rfl (by first | assumption | rfl) ?_
    refine ev_geti dS_behindRun_4 fS_28 (sh_S hr) ?_
    rw [hT.1]
    refine ev_icmp (tgt := 47) dS_behindRun_7 (by decide) (fun h7 => ?_) (fun h7 => ?_)
    · first | omega | (simp (disch := omega) only [zcond, nI_ltI, nI_leI, nI_eq] at h7; omega)
    · try simp (disch := omega) only [zcond, nI_ltI, nI_leI, nI_eq, zb0, Classical.not_not, Bool.not_eq_false, Nat.not_lt, Nat.not_le] at h7
      refine ev_il dS_behindRun_10 rfl (by first | assumption | rfl) ?_
      refine ev_if0 (tgt := 29) dS_behindRun_11 (by decide) (fun h11 => ?_) (fun h11 => ?_)
      · try simp (disch := omega) only [zcond, nI_ltI, nI_leI, nI_eq, zb0, Classical.not_not, Bool.not_eq_false, Nat.not_lt, Nat.not_le] at h11
        refine ev_al dS_behindRun_29 rfl (by first | assumption | rfl) ?_
        refine ev_getrP dS_behindRun_30 fS_9 (sh_S hr) (zq hP (pt_chars hr)) ?_
        refine ev_il dS_behindRun_33 rfl (by first | assumption | rfl) ?_
        refine ev_aldN dS_behindRun_34 rfl (sh_chars hr) (by omega) ?_
        rw [(hT.2.2 p (by omega)).1]
        have htp := (hT.2.2 p (by omega)).2
        refine ev_pS dS_behindRun_35 (c_isDigit (by omega)) lS_64 rfl (Nat.le_of_ble_eq_true rfl) rfl (Nat.le_of_ble_eq_true rfl) ?_
        refine ev_if0 (tgt := 47) dS_behindRun_38 (by decide) (fun h38 => ?_) (fun h38 => ?_)
        · try simp (disch := omega) only [zcond, nI_ltI, nI_leI, nI_eq, zb0, Classical.not_not, Bool.not_eq_false, Nat.not_lt, Nat.not_le] at h38
          refine ev_il dS_behindRun_47 rfl (by first | assumption | rfl) ?_
          refine ev_ret dS_behindRun_48 rfl rfl ?_
          exact (by (repeat' split at hR) <;> first | exact hR | (exfalso; omega) | (exfalso; simp_all))
        · try simp (disch := omega) only [zcond, nI_ltI, nI_leI, nI_eq, zb0, Classical.not_not, Bool.not_eq_false, Nat.not_lt, Nat.not_le] at h38
          refine ev_inc1 dS_behindRun_41 (by first | assumption | rfl) ?_
          refine ev_goto (tgt := 2) dS_behindRun_44 (by decide) ?_
          exact ih (p + 1) _ (by omega) (by first | assumption | rfl) (by first | assumption | rfl) rfl (by (repeat' split at hR) <;> first | exact hR | (exfalso; omega) | (exfalso; simp_all))
      · exact absurd (rfl : nI 0 = nI 0) h11
set_option maxRecDepth 100000 in
set_option maxHeartbeats 4000000 in
theorem c_behindRun_d {t : Nat → Nat} {e p : Nat} (hP : M.2.1 = zP0 n b) (hr : zR r) (hT : Txt M r t e) (hp : p ≤ e) : Pu Lx xs (d + 1) mS_behindRun [.ref (r + 1), .int (nI p), .int (nI 0)] M (nI (lRun lDig t (e - p) p)) := by
  unfold Pu Ct
  refine ev_il dS_behindRun_0 rfl (by first | assumption | rfl) ?_
  refine ev_is dS_behindRun_1 rfl (Nat.le_of_ble_eq_true rfl) ?_
  exact l_behindRun_d hP hr hT (e - p) p _ (by omega) rfl rfl rfl ⟨rfl, rfl⟩
set_option maxRecDepth 100000 in
set_option maxHeartbeats 4000000 in
theorem l_quotedFrom {t : Nat → Nat} {e q : Nat} (hP : M.2.1 = zP0 n b) (hr : zR r) (hT : Txt M r t e) {R : Option Int32 → zM → Prop} : ∀ (f p : Nat) (L : Nat → Value), p + f = e → q < p → L 0 = .ref (r + 1) → L 1 = .int (nI q) → L 2 = .int (nI p) → R (some (nI (if lQuo t f p < e then q * 2048 + (lQuo t f p + 1 - q) * 8 + 2 else q * 2048 + (e - q) * 8 + 4))) M → Ev Lx xs (d + 1) mS_quotedFrom 4 L [] M (zpost mS_quotedFrom R) := by
  have he := hT.2.1
  intro f
  induction f with
  | zero =>
    intro p L hpe hqp hL0 hL1 hL2 hR
    refine ev_il dS_quotedFrom_4 rfl (by first | assumption | rfl) ?_
    refine ev_al dS_quotedFrom_5 rfl (by first | assumption | rfl) ?_
    refine ev_geti dS_quotedFrom_6 fS_28 (sh_S hr) ?_
    rw [hT.1]
    refine ev_icmp (tgt := 38) dS_quotedFrom_9 (by decide) (fun h9 => ?_) (fun h9 => ?_)
    · try simp (disch := omega) only [zcond, nI_ltI, nI_leI, nI_eq, zb0, Classical.not_not, Bool.not_eq_false, Nat.not_lt, Nat.not_le] at h9
      refine ev_il dS_quotedFrom_38 rfl (by first | assumption | rfl) ?_
      refine ev_al dS_quotedFrom_39 rfl (by first | assumption | rfl) ?_
      refine ev_geti dS_quotedFrom_40 fS_28 (sh_S hr) ?_
      rw [hT.1]
      refine ev_const (v := nI 4) dS_quotedFrom_43 (by decide) ?_
      refine ev_pS dS_quotedFrom_44 (c_packed (by omega)) lS_60 rfl (Nat.le_of_ble_eq_true rfl) rfl (Nat.le_of_ble_eq_true rfl) ?_
      refine ev_ret dS_quotedFrom_47 rfl rfl ?_
      rw [lQuo, if_neg (by omega)] at hR
      exact hR
    · first | omega | (simp (disch := omega) only [zcond, nI_ltI, nI_leI, nI_eq] at h9; omega)
  | succ f ih =>
    intro p L hpe hqp hL0 hL1 hL2 hR
    refine ev_il dS_quotedFrom_4 rfl (by first | assumption | rfl) ?_
    refine ev_al dS_quotedFrom_5 rfl (by first | assumption | rfl) ?_
    refine ev_geti dS_quotedFrom_6 fS_28 (sh_S hr) ?_
    rw [hT.1]
    refine ev_icmp (tgt := 38) dS_quotedFrom_9 (by decide) (fun h9 => ?_) (fun h9 => ?_)
    · first | omega | (simp (disch := omega) only [zcond, nI_ltI, nI_leI, nI_eq] at h9; omega)
    · try simp (disch := omega) only [zcond, nI_ltI, nI_leI, nI_eq, zb0, Classical.not_not, Bool.not_eq_false, Nat.not_lt, Nat.not_le] at h9
      refine ev_al dS_quotedFrom_12 rfl (by first | assumption | rfl) ?_
      refine ev_getrP dS_quotedFrom_13 fS_9 (sh_S hr) (zq hP (pt_chars hr)) ?_
      refine ev_il dS_quotedFrom_16 rfl (by first | assumption | rfl) ?_
      refine ev_aldN dS_quotedFrom_17 rfl (sh_chars hr) (by omega) ?_
      rw [(hT.2.2 p (by omega)).1]
      have htp := (hT.2.2 p (by omega)).2
      refine ev_const (v := nI 34) dS_quotedFrom_18 (by decide) ?_
      refine ev_icmp (tgt := 32) dS_quotedFrom_20 (by decide) (fun h20 => ?_) (fun h20 => ?_)
      · try simp (disch := omega) only [zcond, nI_ltI, nI_leI, nI_eq, zb0, Classical.not_not, Bool.not_eq_false, Nat.not_lt, Nat.not_le] at h20
        refine ev_inc1 dS_quotedFrom_32 (by first | assumption | rfl) ?_
        refine ev_goto (tgt := 4) dS_quotedFrom_35 (by decide) ?_
        exact ih (p + 1) _ (by omega) (by omega) (by first | assumption | rfl) (by first | assumption | rfl) rfl (by rw [lQuo, if_neg h20] at hR; exact hR)
      · try simp (disch := omega) only [zcond, nI_ltI, nI_leI, nI_eq, zb0, Classical.not_not, Bool.not_eq_false, Nat.not_lt, Nat.not_le] at h20
        refine ev_il dS_quotedFrom_23 rfl (by first | assumption | rfl) ?_
        refine ev_il dS_quotedFrom_24 rfl (by first | assumption | rfl) ?_
        refine ev_const (v := nI 1) dS_quotedFrom_25 (by decide) ?_
        first | with_reducible refine ev_addN dS_quotedFrom_26 ?_ | refine ev_add dS_quotedFrom_26 ?_
        refine ev_const (v := nI 2) dS_quotedFrom_27 (by decide) ?_
        refine ev_pS dS_quotedFrom_28 (c_packed (by omega)) lS_60 rfl (Nat.le_of_ble_eq_true rfl) rfl (Nat.le_of_ble_eq_true rfl) ?_
        refine ev_ret dS_quotedFrom_31 rfl rfl ?_
        rw [lQuo, if_pos h20, if_pos (by omega)] at hR
        exact hR
set_option maxRecDepth 100000 in
set_option maxHeartbeats 4000000 in
theorem c_quotedFrom {t : Nat → Nat} {e p : Nat} (hP : M.2.1 = zP0 n b) (hr : zR r) (hT : Txt M r t e) (hp : p < e) : Pu Lx xs (d + 1) mS_quotedFrom [.ref (r + 1), .int (nI p)] M (nI (if lQuo t (e - (p + 1)) (p + 1) < e then p * 2048 + (lQuo t (e - (p + 1)) (p + 1) + 1 - p) * 8 + 2 else p * 2048 + (e - p) * 8 + 4)) := by
  unfold Pu Ct
  refine ev_il dS_quotedFrom_0 rfl (by first | assumption | rfl) ?_
  refine ev_const (v := nI 1) dS_quotedFrom_1 (by decide) ?_
  first | with_reducible refine ev_addN dS_quotedFrom_2 ?_ | refine ev_add dS_quotedFrom_2 ?_
  refine ev_is dS_quotedFrom_3 rfl (Nat.le_of_ble_eq_true rfl) ?_
  exact l_quotedFrom hP hr hT (e - (p + 1)) (p + 1) _ (by omega) (by omega) rfl rfl rfl ⟨rfl, rfl⟩
def lMk (k c : Nat) : Nat := if k = 0 then 97 else if k = 1 then 48 else if k = 2 then 34 else if k = 3 then c else 63
set_option maxRecDepth 100000 in
set_option maxHeartbeats 4000000 in
theorem c_markOf {k c : Nat} (hk : k < 5) (hc : c < 65536) : Pu Lx xs d mS_markOf [.int (nI k), .int (nI c)] M (nI (lMk k c)) := by
  unfold Pu Ct
  refine ev_il dS_markOf_0 rfl (by first | assumption | rfl) ?_
  rcases (show k = 0 ∨ k = 1 ∨ k = 2 ∨ k = 3 ∨ k = 4 by omega) with rfl | rfl | rfl | rfl | rfl
  · refine ev_tin (tgt := 32) dS_markOf_1 (by decide) (by decide) rfl (by decide) ?_
    refine ev_const (v := nI 97) dS_markOf_32 (by decide) ?_
    refine ev_ret dS_markOf_34 rfl (zchr (by omega)) ?_
    exact ⟨rfl, rfl⟩
  · refine ev_tin (tgt := 35) dS_markOf_1 (by decide) (by decide) rfl (by decide) ?_
    refine ev_const (v := nI 48) dS_markOf_35 (by decide) ?_
    refine ev_ret dS_markOf_37 rfl (zchr (by omega)) ?_
    exact ⟨rfl, rfl⟩
  · refine ev_tin (tgt := 38) dS_markOf_1 (by decide) (by decide) rfl (by decide) ?_
    refine ev_const (v := nI 34) dS_markOf_38 (by decide) ?_
    refine ev_ret dS_markOf_40 rfl (zchr (by omega)) ?_
    exact ⟨rfl, rfl⟩
  · refine ev_tin (tgt := 41) dS_markOf_1 (by decide) (by decide) rfl (by decide) ?_
    refine ev_il dS_markOf_41 rfl (by first | assumption | rfl) ?_
    refine ev_ret dS_markOf_42 rfl (zchr (by omega)) ?_
    exact ⟨rfl, rfl⟩
  · refine ev_tout (tgt := 43) dS_markOf_1 (by decide) (by decide) ?_
    refine ev_const (v := nI 63) dS_markOf_43 (by decide) ?_
    refine ev_ret dS_markOf_45 rfl (zchr (by omega)) ?_
    exact ⟨rfl, rfl⟩
end
