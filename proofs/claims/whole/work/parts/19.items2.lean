/- Reading: namedValue, items, blocks (rows laid by program) -/
def zd : Nat → Int32
  | 0 => -1
  | k + 1 => nI k
theorem zd_dec (k : Nat) : nI k + Int32.ofInt (-1) = zd k := by
  cases k with
  | zero => decide
  | succ k => exact pk_m1 k
theorem zd_ini {c : Nat} (h : 1 ≤ c) : nI c - nI 2 = zd (c - 1) := by
  obtain ⟨k, rfl⟩ : ∃ k, c = k + 1 := ⟨c - 1, by omega⟩
  cases k with
  | zero => decide
  | succ k => rw [pk_sub (by omega)]; rfl
section
variable {Lx : Nat} {xs : Nat → Int32} {d : Nat} {M : zM} {n b r nT : Nat} {mk : Nat → Nat} {same : Nat → Nat → Bool}
set_option maxRecDepth 100000 in
set_option maxHeartbeats 4000000 in
theorem l_namedValue {c nm : Nat} {F V : Nat → Int32} (hP : M.2.1 = zP0 n b) (hr : zR r) (hE : Mks M r nT mk) (hc2 : c ≤ 160) (hnm : nm < nT) (hF : ∀ k, k < c → M.1 (r + 6) k = F k) (hF2 : ∀ k, k < c → ∃ p, p < nT ∧ F k = nI p) (hV : ∀ k, k < c → M.1 (r + 9) k = V k) (hsm : ∀ d a z, a < nT → z < nT → Pu Lx xs d mS_areSame [.ref (r + 1), .int (nI a), .int (nI z)] M (nI (same a z).toNat)) {R : Option Int32 → zM → Prop} : ∀ (j : Nat) (L : Nat → Value), j ≤ c → L 0 = .ref r → L 1 = .int (nI nm) → L 2 = .int (zd j) → R (some (pNv nT mk same (fun k => (F k).toNatClampNeg) V j nm)) M → Ev Lx xs (d + 1) mR_namedValue 10 L [] M (zpost mR_namedValue R) := by
  have hnT := hE.2.1
  intro j
  induction j with
  | zero =>
    intro L hj hL0 hL1 hL2 hR
    refine ev_il dR_namedValue_10 rfl (by first | assumption | rfl) ?_
    refine ev_if0 (tgt := 93) dR_namedValue_11 (by decide) (fun h11 => ?_) (fun h11 => ?_)
    · refine ev_const (v := nI 0) dR_namedValue_93 (by decide) ?_
      refine ev_ret dR_namedValue_94 rfl rfl ?_
      exact hR
    · exact absurd (show zd 0 < nI 0 by decide) h11
  | succ k ih =>
    intro L hj hL0 hL1 hL2 hR
    have hL2 : L 2 = .int (nI k) := hL2
    obtain ⟨p, hp1, hpe⟩ := hF2 k (by omega)
    have hfk : (F k).toNatClampNeg = p := by rw [hpe]; exact nI_clamp (by omega)
    refine ev_il dR_namedValue_10 rfl (by first | assumption | rfl) ?_
    refine ev_if0 (tgt := 93) dR_namedValue_11 (by decide) (fun h11 => ?_) (fun h11 => ?_)
    · first | omega | (simp (disch := omega) only [zcond, nI_ltI, nI_leI, nI_eq] at h11; omega)
    · try simp (disch := omega) only [zcond, nI_ltI, nI_leI, nI_eq, zb0, Classical.not_not, Bool.not_eq_false, Bool.not_eq_true, Nat.not_lt, Nat.not_le] at h11
      refine ev_al dR_namedValue_14 rfl (by first | assumption | rfl) ?_
      refine ev_getrP dR_namedValue_15 fR_21 (sh_R hr) (zq hP (pt_tree hr)) ?_
      refine ev_getrP dR_namedValue_18 fR_56 (sh_T hr) (zq hP (pt_firsts hr)) ?_
      refine ev_il dR_namedValue_21 rfl (by first | assumption | rfl) ?_
      refine ev_aldN dR_namedValue_22 rfl (sh_firsts hr) (by omega) ?_
      rw [hF k (by omega), hpe]
      refine ev_is dR_namedValue_23 rfl (Nat.le_of_ble_eq_true rfl) ?_
      refine ev_il dR_namedValue_24 rfl (by first | assumption | rfl) ?_
      refine ev_const (v := nI 1) dR_namedValue_25 (by decide) ?_
      first | with_reducible refine ev_addN dR_namedValue_26 ?_ | refine ev_add dR_namedValue_26 ?_
      refine ev_al dR_namedValue_27 rfl (by first | assumption | rfl) ?_
      refine ev_getrP dR_namedValue_28 fR_12 (sh_R hr) (zq hP (pt_source hr)) ?_
      refine ev_geti dR_namedValue_31 fR_36 (sh_S hr) ?_
      rw [hE.1]
      refine ev_icmp (tgt := 57) dR_namedValue_34 (by decide) (fun h34 => ?_) (fun h34 => ?_)
      · try simp (disch := omega) only [zcond, nI_ltI, nI_leI, nI_eq, zb0, Classical.not_not, Bool.not_eq_false, Bool.not_eq_true, Nat.not_lt, Nat.not_le] at h34
        refine ev_const (v := nI 0) dR_namedValue_57 (by decide) ?_
        refine ev_is dR_namedValue_58 rfl (Nat.le_of_ble_eq_true rfl) ?_
        refine ev_il dR_namedValue_60 rfl (by first | assumption | rfl) ?_
        refine ev_if0 (tgt := 87) dR_namedValue_62 (by decide) (fun h62 => ?_) (fun h62 => ?_)
        · try simp (disch := omega) only [zcond, nI_ltI, nI_leI, nI_eq, zb0, Classical.not_not, Bool.not_eq_false, Bool.not_eq_true, Nat.not_lt, Nat.not_le] at h62
          refine ev_inc dR_namedValue_87 (by first | assumption | rfl) ?_
          rw [zd_dec]
          refine ev_goto (tgt := 10) dR_namedValue_90 (by decide) ?_
          refine ih _ (by omega) (by first | assumption | rfl) (by first | assumption | rfl) rfl ?_
          rw [pNv, if_neg ?_] at hR
          · exact hR
          · rintro ⟨⟨g1, g2⟩, g3⟩
            simp only [hfk] at g1 g2 g3
            first | omega | (rw [g3] at h74; cases h74)
        · try simp (disch := omega) only [zcond, nI_ltI, nI_leI, nI_eq, zb0, Classical.not_not, Bool.not_eq_false, Bool.not_eq_true, Nat.not_lt, Nat.not_le] at h62
          refine ev_al dR_namedValue_65 rfl (by first | assumption | rfl) ?_
          refine ev_getrP dR_namedValue_66 fR_12 (sh_R hr) (zq hP (pt_source hr)) ?_
          refine ev_il dR_namedValue_69 rfl (by first | assumption | rfl) ?_
          refine ev_il dR_namedValue_70 rfl (by first | assumption | rfl) ?_
          refine ev_pV dR_namedValue_71 (hsm _ _ _ hp1 hnm) lR_102 (rec_S hr) rfl (Nat.le_of_ble_eq_true rfl) rfl (Nat.le_of_ble_eq_true rfl) ?_
          refine ev_if0 (tgt := 87) dR_namedValue_74 (by decide) (fun h74 => ?_) (fun h74 => ?_)
          · try simp (disch := omega) only [zcond, nI_ltI, nI_leI, nI_eq, zb0, Classical.not_not, Bool.not_eq_false, Bool.not_eq_true, Nat.not_lt, Nat.not_le] at h74
            refine ev_inc dR_namedValue_87 (by first | assumption | rfl) ?_
            rw [zd_dec]
            refine ev_goto (tgt := 10) dR_namedValue_90 (by decide) ?_
            refine ih _ (by omega) (by first | assumption | rfl) (by first | assumption | rfl) rfl ?_
            rw [pNv, if_neg ?_] at hR
            · exact hR
            · rintro ⟨⟨g1, g2⟩, g3⟩
              simp only [hfk] at g1 g2 g3
              first | omega | (rw [g3] at h74; cases h74)
          · try simp (disch := omega) only [zcond, nI_ltI, nI_leI, nI_eq, zb0, Classical.not_not, Bool.not_eq_false, Bool.not_eq_true, Nat.not_lt, Nat.not_le] at h74
            refine ev_al dR_namedValue_77 rfl (by first | assumption | rfl) ?_
            refine ev_getrP dR_namedValue_78 fR_21 (sh_R hr) (zq hP (pt_tree hr)) ?_
            refine ev_getrP dR_namedValue_81 fR_63 (sh_T hr) (zq hP (pt_values hr)) ?_
            refine ev_il dR_namedValue_84 rfl (by first | assumption | rfl) ?_
            refine ev_aldN dR_namedValue_85 rfl (sh_values hr) (by omega) ?_
            rw [hV k (by omega)]
            refine ev_ret dR_namedValue_86 rfl rfl ?_
            first
            | exact (h62 rfl).elim
            | exact (h62 trivial).elim
            | exact (h62 (Nat.le_refl _)).elim
            | (have g : (((fun k => (F k).toNatClampNeg) k + 1 < nT ∧ mk ((fun k => (F k).toNatClampNeg) k + 1) = 61) ∧ same ((fun k => (F k).toNatClampNeg) k) nm = true) := by
                 simp only [hfk]; exact ⟨⟨h34, h50⟩, h74⟩
               rw [pNv, if_pos g] at hR
               exact hR)
      · try simp (disch := omega) only [zcond, nI_ltI, nI_leI, nI_eq, zb0, Classical.not_not, Bool.not_eq_false, Bool.not_eq_true, Nat.not_lt, Nat.not_le] at h34
        refine ev_al dR_namedValue_37 rfl (by first | assumption | rfl) ?_
        refine ev_getrP dR_namedValue_38 fR_12 (sh_R hr) (zq hP (pt_source hr)) ?_
        refine ev_getrP dR_namedValue_41 fR_48 (sh_S hr) (zq hP (pt_marks hr)) ?_
        refine ev_il dR_namedValue_44 rfl (by first | assumption | rfl) ?_
        refine ev_const (v := nI 1) dR_namedValue_45 (by decide) ?_
        first | with_reducible refine ev_addN dR_namedValue_46 ?_ | refine ev_add dR_namedValue_46 ?_
        refine ev_aldN dR_namedValue_47 rfl (sh_marks hr) (by omega) ?_
        rw [(hE.2.2 (p + 1) h34).1]
        have hmk := (hE.2.2 (p + 1) h34).2
        refine ev_const (v := nI 61) dR_namedValue_48 (by decide) ?_
        refine ev_icmp (tgt := 57) dR_namedValue_50 (by decide) (fun h50 => ?_) (fun h50 => ?_)
        · try simp (disch := omega) only [zcond, nI_ltI, nI_leI, nI_eq, zb0, Classical.not_not, Bool.not_eq_false, Bool.not_eq_true, Nat.not_lt, Nat.not_le] at h50
          refine ev_const (v := nI 0) dR_namedValue_57 (by decide) ?_
          refine ev_is dR_namedValue_58 rfl (Nat.le_of_ble_eq_true rfl) ?_
          refine ev_il dR_namedValue_60 rfl (by first | assumption | rfl) ?_
          refine ev_if0 (tgt := 87) dR_namedValue_62 (by decide) (fun h62 => ?_) (fun h62 => ?_)
          · try simp (disch := omega) only [zcond, nI_ltI, nI_leI, nI_eq, zb0, Classical.not_not, Bool.not_eq_false, Bool.not_eq_true, Nat.not_lt, Nat.not_le] at h62
            refine ev_inc dR_namedValue_87 (by first | assumption | rfl) ?_
            rw [zd_dec]
            refine ev_goto (tgt := 10) dR_namedValue_90 (by decide) ?_
            refine ih _ (by omega) (by first | assumption | rfl) (by first | assumption | rfl) rfl ?_
            rw [pNv, if_neg ?_] at hR
            · exact hR
            · rintro ⟨⟨g1, g2⟩, g3⟩
              simp only [hfk] at g1 g2 g3
              first | omega | (rw [g3] at h74; cases h74)
          · try simp (disch := omega) only [zcond, nI_ltI, nI_leI, nI_eq, zb0, Classical.not_not, Bool.not_eq_false, Bool.not_eq_true, Nat.not_lt, Nat.not_le] at h62
            refine ev_al dR_namedValue_65 rfl (by first | assumption | rfl) ?_
            refine ev_getrP dR_namedValue_66 fR_12 (sh_R hr) (zq hP (pt_source hr)) ?_
            refine ev_il dR_namedValue_69 rfl (by first | assumption | rfl) ?_
            refine ev_il dR_namedValue_70 rfl (by first | assumption | rfl) ?_
            refine ev_pV dR_namedValue_71 (hsm _ _ _ hp1 hnm) lR_102 (rec_S hr) rfl (Nat.le_of_ble_eq_true rfl) rfl (Nat.le_of_ble_eq_true rfl) ?_
            refine ev_if0 (tgt := 87) dR_namedValue_74 (by decide) (fun h74 => ?_) (fun h74 => ?_)
            · try simp (disch := omega) only [zcond, nI_ltI, nI_leI, nI_eq, zb0, Classical.not_not, Bool.not_eq_false, Bool.not_eq_true, Nat.not_lt, Nat.not_le] at h74
              refine ev_inc dR_namedValue_87 (by first | assumption | rfl) ?_
              rw [zd_dec]
              refine ev_goto (tgt := 10) dR_namedValue_90 (by decide) ?_
              refine ih _ (by omega) (by first | assumption | rfl) (by first | assumption | rfl) rfl ?_
              rw [pNv, if_neg ?_] at hR
              · exact hR
              · rintro ⟨⟨g1, g2⟩, g3⟩
                simp only [hfk] at g1 g2 g3
                first | omega | (rw [g3] at h74; cases h74)
            · try simp (disch := omega) only [zcond, nI_ltI, nI_leI, nI_eq, zb0, Classical.not_not, Bool.not_eq_false, Bool.not_eq_true, Nat.not_lt, Nat.not_le] at h74
              refine ev_al dR_namedValue_77 rfl (by first | assumption | rfl) ?_
              refine ev_getrP dR_namedValue_78 fR_21 (sh_R hr) (zq hP (pt_tree hr)) ?_
              refine ev_getrP dR_namedValue_81 fR_63 (sh_T hr) (zq hP (pt_values hr)) ?_
              refine ev_il dR_namedValue_84 rfl (by first | assumption | rfl) ?_
              refine ev_aldN dR_namedValue_85 rfl (sh_values hr) (by omega) ?_
              rw [hV k (by omega)]
              refine ev_ret dR_namedValue_86 rfl rfl ?_
              first
              | exact (h62 rfl).elim
              | exact (h62 trivial).elim
              | exact (h62 (Nat.le_refl _)).elim
              | (have g : (((fun k => (F k).toNatClampNeg) k + 1 < nT ∧ mk ((fun k => (F k).toNatClampNeg) k + 1) = 61) ∧ same ((fun k => (F k).toNatClampNeg) k) nm = true) := by
                   simp only [hfk]; exact ⟨⟨h34, h50⟩, h74⟩
                 rw [pNv, if_pos g] at hR
                 exact hR)
        · try simp (disch := omega) only [zcond, nI_ltI, nI_leI, nI_eq, zb0, Classical.not_not, Bool.not_eq_false, Bool.not_eq_true, Nat.not_lt, Nat.not_le] at h50
          refine ev_const (v := nI 1) dR_namedValue_53 (by decide) ?_
          refine ev_goto (tgt := 58) dR_namedValue_54 (by decide) ?_
          refine ev_is dR_namedValue_58 rfl (Nat.le_of_ble_eq_true rfl) ?_
          refine ev_il dR_namedValue_60 rfl (by first | assumption | rfl) ?_
          refine ev_if0 (tgt := 87) dR_namedValue_62 (by decide) (fun h62 => ?_) (fun h62 => ?_)
          · try simp (disch := omega) only [zcond, nI_ltI, nI_leI, nI_eq, zb0, Classical.not_not, Bool.not_eq_false, Bool.not_eq_true, Nat.not_lt, Nat.not_le] at h62
            refine ev_inc dR_namedValue_87 (by first | assumption | rfl) ?_
            rw [zd_dec]
            refine ev_goto (tgt := 10) dR_namedValue_90 (by decide) ?_
            refine ih _ (by omega) (by first | assumption | rfl) (by first | assumption | rfl) rfl ?_
            rw [pNv, if_neg ?_] at hR
            · exact hR
            · rintro ⟨⟨g1, g2⟩, g3⟩
              simp only [hfk] at g1 g2 g3
              first | omega | (rw [g3] at h74; cases h74)
          · try simp (disch := omega) only [zcond, nI_ltI, nI_leI, nI_eq, zb0, Classical.not_not, Bool.not_eq_false, Bool.not_eq_true, Nat.not_lt, Nat.not_le] at h62
            refine ev_al dR_namedValue_65 rfl (by first | assumption | rfl) ?_
            refine ev_getrP dR_namedValue_66 fR_12 (sh_R hr) (zq hP (pt_source hr)) ?_
            refine ev_il dR_namedValue_69 rfl (by first | assumption | rfl) ?_
            refine ev_il dR_namedValue_70 rfl (by first | assumption | rfl) ?_
            refine ev_pV dR_namedValue_71 (hsm _ _ _ hp1 hnm) lR_102 (rec_S hr) rfl (Nat.le_of_ble_eq_true rfl) rfl (Nat.le_of_ble_eq_true rfl) ?_
            refine ev_if0 (tgt := 87) dR_namedValue_74 (by decide) (fun h74 => ?_) (fun h74 => ?_)
            · try simp (disch := omega) only [zcond, nI_ltI, nI_leI, nI_eq, zb0, Classical.not_not, Bool.not_eq_false, Bool.not_eq_true, Nat.not_lt, Nat.not_le] at h74
              refine ev_inc dR_namedValue_87 (by first | assumption | rfl) ?_
              rw [zd_dec]
              refine ev_goto (tgt := 10) dR_namedValue_90 (by decide) ?_
              refine ih _ (by omega) (by first | assumption | rfl) (by first | assumption | rfl) rfl ?_
              rw [pNv, if_neg ?_] at hR
              · exact hR
              · rintro ⟨⟨g1, g2⟩, g3⟩
                simp only [hfk] at g1 g2 g3
                first | omega | (rw [g3] at h74; cases h74)
            · try simp (disch := omega) only [zcond, nI_ltI, nI_leI, nI_eq, zb0, Classical.not_not, Bool.not_eq_false, Bool.not_eq_true, Nat.not_lt, Nat.not_le] at h74
              refine ev_al dR_namedValue_77 rfl (by first | assumption | rfl) ?_
              refine ev_getrP dR_namedValue_78 fR_21 (sh_R hr) (zq hP (pt_tree hr)) ?_
              refine ev_getrP dR_namedValue_81 fR_63 (sh_T hr) (zq hP (pt_values hr)) ?_
              refine ev_il dR_namedValue_84 rfl (by first | assumption | rfl) ?_
              refine ev_aldN dR_namedValue_85 rfl (sh_values hr) (by omega) ?_
              rw [hV k (by omega)]
              refine ev_ret dR_namedValue_86 rfl rfl ?_
              first
              | exact (h62 rfl).elim
              | exact (h62 trivial).elim
              | exact (h62 (Nat.le_refl _)).elim
              | (have g : (((fun k => (F k).toNatClampNeg) k + 1 < nT ∧ mk ((fun k => (F k).toNatClampNeg) k + 1) = 61) ∧ same ((fun k => (F k).toNatClampNeg) k) nm = true) := by
                   simp only [hfk]; exact ⟨⟨h34, h50⟩, h74⟩
                 rw [pNv, if_pos g] at hR
                 exact hR)
set_option maxRecDepth 100000 in
set_option maxHeartbeats 4000000 in
theorem c_namedValue {c nm : Nat} {F V : Nat → Int32} (hP : M.2.1 = zP0 n b) (hr : zR r) (hE : Mks M r nT mk) (hc : M.1 (r + 2) 5 = nI c) (hc1 : 1 ≤ c) (hc2 : c ≤ 160) (hnm : nm < nT) (hF : ∀ k, k < c → M.1 (r + 6) k = F k) (hF2 : ∀ k, k < c → ∃ p, p < nT ∧ F k = nI p) (hV : ∀ k, k < c → M.1 (r + 9) k = V k) (hsm : ∀ d a z, a < nT → z < nT → Pu Lx xs d mS_areSame [.ref (r + 1), .int (nI a), .int (nI z)] M (nI (same a z).toNat)) : Pu Lx xs (d + 1) mR_namedValue [.ref r, .int (nI nm)] M (pNv nT mk same (fun k => (F k).toNatClampNeg) V (c - 1) nm) := by
  unfold Pu Ct
  refine ev_al dR_namedValue_0 rfl (by first | assumption | rfl) ?_
  refine ev_getrP dR_namedValue_1 fR_21 (sh_R hr) (zq hP (pt_tree hr)) ?_
  refine ev_geti dR_namedValue_4 fR_33 (sh_T hr) ?_
  rw [hc]
  refine ev_const (v := nI 2) dR_namedValue_7 (by decide) ?_
  refine ev_sub dR_namedValue_8 ?_
  rw [zd_ini hc1]
  refine ev_is dR_namedValue_9 rfl (Nat.le_of_ble_eq_true rfl) ?_
  exact l_namedValue hP hr hE hc2 hnm hF hF2 hV hsm (c - 1) _ (by omega) rfl rfl rfl ⟨rfl, rfl⟩
end
