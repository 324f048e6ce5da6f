/- the reference: change, and the calls that only ask (rows laid by program) -/
theorem nI_more {k w g : Nat} (h : g ≤ k + w) : nI k + (nI w - nI g) = nI (k + w - g) := by
  have e1 : nI (k + w - g) + nI g = nI k + nI w := by rw [nI_add, nI_add]; congr 1; omega
  have e2 : nI (k + w - g) = nI k + nI w - nI g := by rw [← e1]; exact (Int32.add_sub_cancel _ _).symm
  rw [e2]; simp only [Int32.sub_eq_add_neg, Int32.add_assoc]
theorem zd_1 (e : Nat) : nI e - nI 1 = zd e := by
  cases e with
  | zero => decide
  | succ k => rw [pk_sub (by omega)]; rfl
theorem nI_dle {w g : Nat} (hw : w < 2 ^ 30) (hg : g < 2 ^ 30) : nI w - nI g ≤ nI 0 ↔ w ≤ g := by
  rw [Int32.le_iff_toInt_le, pk_sub_toInt hw hg, nI_toInt (by decide)]
  omega
def sCh : Nat → Nat → Prop := fun o i => o = 26 ∨ (o = 25 ∧ (i = 1 ∨ i = 3))
section
variable {Lx : Nat} {xs : Nat → Int32} {d : Nat} {n b : Nat}
set_option maxRecDepth 100000 in
set_option maxHeartbeats 4000000 in
theorem r_chg1 {e p g w : Nat} {t : Nat → Nat} (hgw : g < w) (hpg : p + g ≤ e) (hfit : e - g + w ≤ 160) (ht : ∀ i, i < e → t i < 128) {Q : zQ} : ∀ (j : Nat) (M : zM) (L : Nat → Value), j ≤ e → p + g ≤ j → M.2.1 = zP0 n b → (∀ i, i < j → M.1 26 i = nI (t i)) → (∀ i, j ≤ i → i < e → M.1 26 (i + w - g) = nI (t i)) → L 0 = .ref 25 → L 1 = .int (nI p) → L 2 = .int (nI g) → L 3 = .int (nI w - nI g) → L 4 = .int (zd j) → (∀ (M' : zM) (L' : Nat → Value), zSame (fun o _ => o = 26) M M' → (∀ i, i < p → M'.1 26 i = nI (t i)) → (∀ i, p + g ≤ i → i < e → M'.1 26 (i + w - g) = nI (t i)) → L' 0 = .ref 25 → L' 1 = .int (nI p) → L' 2 = .int (nI g) → L' 3 = .int (nI w - nI g) → Ev Lx xs d mM_change 88 L' [] M' Q) → Ev Lx xs d mM_change 19 L [] M Q := by
  intro j
  induction j with
  | zero =>
    intro M L hj hjp hP hlo hhi hL0 hL1 hL2 hL3 hL4 hK
    have hlo : ∀ i, i < p → M.1 26 i = nI (t i) := fun i hi => absurd hi (by omega)
    have hhi : ∀ i, p + g ≤ i → i < e → M.1 26 (i + w - g) = nI (t i) := fun i h1 h2 => hhi i (Nat.zero_le i) h2
    refine ev_il dM_change_19 rfl (by first | assumption | rfl) ?_
    refine ev_il dM_change_21 rfl (by first | assumption | rfl) ?_
    refine ev_il dM_change_22 rfl (by first | assumption | rfl) ?_
    first | with_reducible refine ev_addN dM_change_23 ?_ | refine ev_add dM_change_23 ?_
    refine ev_icmp (tgt := 49) dM_change_24 (by decide) (fun h24 => ?_) (fun h24 => ?_)
    · refine ev_goto (tgt := 88) dM_change_49 (by decide) ?_
      exact hK M L (zSame.rf _ _) hlo hhi hL0 hL1 hL2 hL3
    · exact absurd (show zd 0 < nI (p + g) from Int32.lt_iff_toInt_lt.mpr (by rw [nI_toInt (by omega), show (zd 0).toInt = -1 by decide]; omega)) h24
  | succ k ih =>
    intro M L hj hjp hP hlo hhi hL0 hL1 hL2 hL3 hL4 hK
    have hL4 : L 4 = .int (nI k) := hL4
    by_cases hkp : k + 1 = p + g
    · refine ev_il dM_change_19 rfl (by first | assumption | rfl) ?_
      refine ev_il dM_change_21 rfl (by first | assumption | rfl) ?_
      refine ev_il dM_change_22 rfl (by first | assumption | rfl) ?_
      refine ev_addN dM_change_23 ?_
      refine ev_icmp (tgt := 49) dM_change_24 (by decide) (fun h24 => ?_) (fun h24 => ?_)
      · refine ev_goto (tgt := 88) dM_change_49 (by decide) ?_
        exact hK M L (zSame.rf _ _) (fun i hi => hlo i (by omega)) (fun i h1 h2 => hhi i (by omega) h2) hL0 hL1 hL2 hL3
      · first | omega | (simp (disch := omega) only [zcond, nI_ltI, nI_leI, nI_eq] at h24; omega)
    refine ev_il dM_change_19 rfl (by first | assumption | rfl) ?_
    refine ev_il dM_change_21 rfl (by first | assumption | rfl) ?_
    refine ev_il dM_change_22 rfl (by first | assumption | rfl) ?_
    first | with_reducible refine ev_addN dM_change_23 ?_ | refine ev_add dM_change_23 ?_
    refine ev_icmp (tgt := 49) dM_change_24 (by decide) (fun h24 => ?_) (fun h24 => ?_)
    · first | omega | (simp (disch := omega) only [zcond, nI_ltI, nI_leI, nI_eq] at h24; omega)
    · try simp (disch := omega) only [zcond, nI_ltI, nI_leI, nI_eq, zb0, Classical.not_not, Bool.not_eq_false, Bool.not_eq_true, Nat.not_lt, Nat.not_le] at h24
      refine ev_al dM_change_27 rfl (by first | assumption | rfl) ?_
      refine ev_getrP dM_change_28 fM_7 rfl (zq (q := 26) hP rfl) ?_
      refine ev_il dM_change_31 rfl (by first | assumption | rfl) ?_
      refine ev_il dM_change_33 rfl (by first | assumption | rfl) ?_
      refine ev_add dM_change_34 ?_
      rw [nI_more (by omega)]
      refine ev_al dM_change_35 rfl (by first | assumption | rfl) ?_
      refine ev_getrP dM_change_36 fM_7 rfl (zq (q := 26) hP rfl) ?_
      refine ev_il dM_change_39 rfl (by first | assumption | rfl) ?_
      refine ev_aldN dM_change_41 rfl rfl (by omega) ?_
      rw [hlo k (by omega)]
      have htk := ht k (by omega)
      refine ev_castN dM_change_42 rfl (by omega) (by omega) ?_
      refine ev_inc dM_change_43 (by first | assumption | rfl) ?_
      rw [zd_dec]
      refine ev_goto (tgt := 19) dM_change_46 (by decide) ?_
      refine ih (zI M 26 (k + w - g) (nI (t k))) _ (by omega) (by omega) hP (fun i hi => (zI_k (by omega)).trans (hlo i (by omega))) (fun i h1 h2 => ?_) (by first | assumption | rfl) (by first | assumption | rfl) (by first | assumption | rfl) (by first | assumption | rfl) rfl ?_
      · by_cases hik : i = k
        · subst hik; exact zI_s _ _ _ _
        · exact (zI_k (by omega)).trans (hhi i (by omega) h2)
      · intro M' L' hs
        exact hK M' L' ((zSame.I (S := fun o _ => o = 26) (zSame.rf _ M) rfl).tr hs)

set_option maxRecDepth 100000 in
set_option maxHeartbeats 4000000 in
theorem r_chg2 {e p g w : Nat} {t : Nat → Nat} (hgw : w ≤ g) (hpg : p + g ≤ e) (he : e ≤ 160) (ht : ∀ i, i < e → t i < 128) {Q : zQ} : ∀ (f k : Nat) (M : zM) (L : Nat → Value), k + f = e → p + g ≤ k → M.2.1 = zP0 n b → M.1 25 1 = nI e → (∀ i, i < p → M.1 26 i = nI (t i)) → (∀ i, p + g ≤ i → i < k → M.1 26 (i + w - g) = nI (t i)) → (∀ i, k ≤ i → i < e → M.1 26 i = nI (t i)) → L 0 = .ref 25 → L 1 = .int (nI p) → L 2 = .int (nI g) → L 3 = .int (nI w - nI g) → L 4 = .int (nI k) → (∀ (M' : zM) (L' : Nat → Value), zSame (fun o _ => o = 26) M M' → (∀ i, i < p → M'.1 26 i = nI (t i)) → (∀ i, p + g ≤ i → i < e → M'.1 26 (i + w - g) = nI (t i)) → L' 0 = .ref 25 → L' 1 = .int (nI p) → L' 2 = .int (nI g) → L' 3 = .int (nI w - nI g) → Ev Lx xs d mM_change 88 L' [] M' Q) → Ev Lx xs d mM_change 57 L [] M Q := by
  intro f
  induction f with
  | zero =>
    intro k M L hf hk hP hsz hlo hhi hmid hL0 hL1 hL2 hL3 hL4 hK
    refine ev_il dM_change_57 rfl (by first | assumption | rfl) ?_
    refine ev_al dM_change_59 rfl (by first | assumption | rfl) ?_
    refine ev_geti dM_change_60 fM_103 rfl ?_
    rw [hsz]
    refine ev_icmp (tgt := 88) dM_change_63 (by decide) (fun h63 => ?_) (fun h63 => ?_)
    · try simp (disch := omega) only [zcond, nI_ltI, nI_leI, nI_eq, zb0, Classical.not_not, Bool.not_eq_false, Bool.not_eq_true, Nat.not_lt, Nat.not_le] at h63
      exact hK M L (zSame.rf _ _) hlo (fun i h1 h2 => hhi i h1 (by omega)) hL0 hL1 hL2 hL3
    · first | omega | (simp (disch := omega) only [zcond, nI_ltI, nI_leI, nI_eq] at h63; omega)
  | succ f ih =>
    intro k M L hf hk hP hsz hlo hhi hmid hL0 hL1 hL2 hL3 hL4 hK
    refine ev_il dM_change_57 rfl (by first | assumption | rfl) ?_
    refine ev_al dM_change_59 rfl (by first | assumption | rfl) ?_
    refine ev_geti dM_change_60 fM_103 rfl ?_
    rw [hsz]
    refine ev_icmp (tgt := 88) dM_change_63 (by decide) (fun h63 => ?_) (fun h63 => ?_)
    · first | omega | (simp (disch := omega) only [zcond, nI_ltI, nI_leI, nI_eq] at h63; omega)
    · try simp (disch := omega) only [zcond, nI_ltI, nI_leI, nI_eq, zb0, Classical.not_not, Bool.not_eq_false, Bool.not_eq_true, Nat.not_lt, Nat.not_le] at h63
      refine ev_al dM_change_66 rfl (by first | assumption | rfl) ?_
      refine ev_getrP dM_change_67 fM_7 rfl (zq (q := 26) hP rfl) ?_
      refine ev_il dM_change_70 rfl (by first | assumption | rfl) ?_
      refine ev_il dM_change_72 rfl (by first | assumption | rfl) ?_
      refine ev_add dM_change_73 ?_
      rw [nI_more (by omega)]
      refine ev_al dM_change_74 rfl (by first | assumption | rfl) ?_
      refine ev_getrP dM_change_75 fM_7 rfl (zq (q := 26) hP rfl) ?_
      refine ev_il dM_change_78 rfl (by first | assumption | rfl) ?_
      refine ev_aldN dM_change_80 rfl rfl (by omega) ?_
      rw [hmid k (Nat.le_refl k) (by omega)]
      have htk := ht k (by omega)
      refine ev_castN dM_change_81 rfl (by omega) (by omega) ?_
      refine ev_inc1 dM_change_82 (by first | assumption | rfl) ?_
      refine ev_goto (tgt := 57) dM_change_85 (by decide) ?_
      refine ih (k + 1) (zI M 26 (k + w - g) (nI (t k))) _ (by omega) (by omega) hP ((zI_o (by omega)).trans hsz) (fun i hi => (zI_k (by omega)).trans (hlo i hi)) (fun i h1 h2 => ?_) (fun i h1 h2 => (zI_k (by omega)).trans (hmid i (by omega) h2)) (by first | assumption | rfl) (by first | assumption | rfl) (by first | assumption | rfl) (by first | assumption | rfl) rfl ?_
      · by_cases hik : i = k
        · subst hik; exact zI_s _ _ _ _
        · exact (zI_k (by omega)).trans (hhi i h1 (by omega))
      · intro M' L' hs
        exact hK M' L' ((zSame.I (S := fun o _ => o = 26) (zSame.rf _ M) rfl).tr hs)
set_option maxRecDepth 100000 in
set_option maxHeartbeats 4000000 in
theorem r_chg3 {e p g w : Nat} {t row : Nat → Nat} (hw40 : w ≤ 40) (hpg : p + g ≤ e) (he : e ≤ 160) (hfit : e - g + w ≤ 160) {Q : zQ} : ∀ (f k : Nat) (M : zM) (L : Nat → Value), k + f = w → M.2.1 = zP0 n b → M.1 25 3 = nI w → (∀ i, i < w → M.1 27 i = nI (row i) ∧ row i < 128) → (∀ i, i < p → M.1 26 i = nI (t i)) → (∀ i, i < k → M.1 26 (p + i) = nI (row i)) → (∀ i, p + g ≤ i → i < e → M.1 26 (i + w - g) = nI (t i)) → L 0 = .ref 25 → L 1 = .int (nI p) → L 2 = .int (nI g) → L 3 = .int (nI w - nI g) → L 4 = .int (nI k) → (∀ (M' : zM) (L' : Nat → Value), zSame (fun o _ => o = 26) M M' → (∀ i, i < p → M'.1 26 i = nI (t i)) → (∀ i, i < w → M'.1 26 (p + i) = nI (row i)) → (∀ i, p + g ≤ i → i < e → M'.1 26 (i + w - g) = nI (t i)) → L' 0 = .ref 25 → L' 3 = .int (nI w - nI g) → Ev Lx xs d mM_change 122 L' [] M' Q) → Ev Lx xs d mM_change 91 L [] M Q := by
  intro f
  induction f with
  | zero =>
    intro k M L hf hP hty hrow hlo hin hhi hL0 hL1 hL2 hL3 hL4 hK
    refine ev_il dM_change_91 rfl (by first | assumption | rfl) ?_
    refine ev_al dM_change_93 rfl (by first | assumption | rfl) ?_
    refine ev_geti dM_change_94 fM_100 rfl ?_
    rw [hty]
    refine ev_icmp (tgt := 122) dM_change_97 (by decide) (fun h97 => ?_) (fun h97 => ?_)
    · try simp (disch := omega) only [zcond, nI_ltI, nI_leI, nI_eq, zb0, Classical.not_not, Bool.not_eq_false, Bool.not_eq_true, Nat.not_lt, Nat.not_le] at h97
      exact hK M L (zSame.rf _ _) hlo (fun i hi => hin i (by omega)) hhi hL0 hL3
    · first | omega | (simp (disch := omega) only [zcond, nI_ltI, nI_leI, nI_eq] at h97; omega)
  | succ f ih =>
    intro k M L hf hP hty hrow hlo hin hhi hL0 hL1 hL2 hL3 hL4 hK
    refine ev_il dM_change_91 rfl (by first | assumption | rfl) ?_
    refine ev_al dM_change_93 rfl (by first | assumption | rfl) ?_
    refine ev_geti dM_change_94 fM_100 rfl ?_
    rw [hty]
    refine ev_icmp (tgt := 122) dM_change_97 (by decide) (fun h97 => ?_) (fun h97 => ?_)
    · first | omega | (simp (disch := omega) only [zcond, nI_ltI, nI_leI, nI_eq] at h97; omega)
    · try simp (disch := omega) only [zcond, nI_ltI, nI_leI, nI_eq, zb0, Classical.not_not, Bool.not_eq_false, Bool.not_eq_true, Nat.not_lt, Nat.not_le] at h97
      refine ev_al dM_change_100 rfl (by first | assumption | rfl) ?_
      refine ev_getrP dM_change_101 fM_7 rfl (zq (q := 26) hP rfl) ?_
      refine ev_il dM_change_104 rfl (by first | assumption | rfl) ?_
      refine ev_il dM_change_105 rfl (by first | assumption | rfl) ?_
      first | with_reducible refine ev_addN dM_change_107 ?_ | refine ev_add dM_change_107 ?_
      refine ev_al dM_change_108 rfl (by first | assumption | rfl) ?_
      refine ev_getrP dM_change_109 fM_13 rfl (zq (q := 27) hP rfl) ?_
      refine ev_il dM_change_112 rfl (by first | assumption | rfl) ?_
      refine ev_aldN dM_change_114 rfl rfl (by omega) ?_
      rw [(hrow k (by omega)).1]
      have hrk := (hrow k (by omega)).2
      refine ev_castN dM_change_115 rfl (by omega) (by omega) ?_
      refine ev_inc1 dM_change_116 (by first | assumption | rfl) ?_
      refine ev_goto (tgt := 91) dM_change_119 (by decide) ?_
      refine ih (k + 1) (zI M 26 (p + k) (nI (row k))) _ (by omega) hP ((zI_o (by omega)).trans hty) (fun i hi => ⟨(zI_o (by omega)).trans (hrow i hi).1, (hrow i hi).2⟩) (fun i hi => (zI_k (by omega)).trans (hlo i hi)) (fun i hi => ?_) (fun i h1 h2 => (zI_k (by omega)).trans (hhi i h1 h2)) (by first | assumption | rfl) (by first | assumption | rfl) (by first | assumption | rfl) (by first | assumption | rfl) rfl ?_
      · by_cases hik : i = k
        · subst hik; exact zI_s _ _ _ _
        · exact (zI_k (by omega)).trans (hin i (by omega))
      · intro M' L' hs
        exact hK M' L' ((zSame.I (S := fun o _ => o = 26) (zSame.rf _ M) rfl).tr hs)
set_option maxRecDepth 100000 in
set_option maxHeartbeats 4000000 in
theorem r_change {M : zM} {e p g w : Nat} {t row : Nat → Nat} (hP : M.2.1 = zP0 n b) (hT : TxM M t e) (hw : M.1 25 3 = nI w) (hw40 : w ≤ 40) (hrow : ∀ i, i < w → M.1 27 i = nI (row i) ∧ row i < 128) (hpg : p + g ≤ e) (hfit : e - g + w ≤ 160) : Ct Lx xs d mM_change [.ref 25, .int (nI p), .int (nI g)] M (fun q M' => q = none ∧ zSame sCh M M' ∧ TxM M' (eT t row p g w) (e - g + w) ∧ M'.1 25 3 = nI 0) := by
  unfold Ct
  have he := hT.2.1
  refine ev_al dM_change_0 rfl (by first | assumption | rfl) ?_
  refine ev_geti dM_change_1 fM_100 rfl ?_
  rw [hw]
  refine ev_il dM_change_4 rfl (by first | assumption | rfl) ?_
  refine ev_sub dM_change_5 ?_
  refine ev_is dM_change_6 rfl (Nat.le_of_ble_eq_true rfl) ?_
  refine ev_il dM_change_7 rfl (by first | assumption | rfl) ?_
  refine ev_if0 (tgt := 52) dM_change_8 (by decide) (fun h8 => ?_) (fun h8 => ?_)
  · simp only [zcond] at h8
    rw [nI_dle (by omega) (by omega)] at h8
    refine ev_il dM_change_52 rfl (by first | assumption | rfl) ?_
    refine ev_il dM_change_53 rfl (by first | assumption | rfl) ?_
    first | with_reducible refine ev_addN dM_change_54 ?_ | refine ev_add dM_change_54 ?_
    refine ev_is dM_change_55 rfl (Nat.le_of_ble_eq_true rfl) ?_
    refine r_chg2 (t := t) (by omega) hpg he (fun i hi => (hT.2.2 i hi).2) (e - (p + g)) (p + g) M _ (by omega) (Nat.le_refl _) hP hT.1 (fun i hi => (hT.2.2 i (by omega)).1) (fun i h1 h2 => absurd h2 (by omega)) (fun i h1 h2 => (hT.2.2 i h2).1) rfl rfl rfl rfl rfl ?_
    intro M1 L1 hs1 g1 g2 a0 a1 a2 a3
    refine ev_const (v := nI 0) dM_change_88 (by decide) ?_
    refine ev_is dM_change_89 rfl (Nat.le_of_ble_eq_true rfl) ?_
    refine r_chg3 (t := t) (row := row) hw40 hpg he hfit w 0 M1 _ (by omega) (hs1.P hP) ((hs1.2 _ _ (by omega)).trans hw) (fun i hi => ⟨(hs1.2 _ _ (by omega)).trans (hrow i hi).1, (hrow i hi).2⟩) g1 (fun i hi => absurd hi (Nat.not_lt_zero i)) g2 a0 a1 a2 a3 rfl ?_
    intro M2 L2 hs2 k1 k2 k3 b0 b3
    have hP : M2.2.1 = zP0 n b := hs2.P (hs1.P hP)
    have hsz2 : M2.1 25 1 = nI e := (hs2.2 _ _ (by omega)).trans ((hs1.2 _ _ (by omega)).trans hT.1)
    refine ev_al dM_change_122 rfl (by first | assumption | rfl) ?_
    refine ev_al dM_change_123 rfl (by first | assumption | rfl) ?_
    refine ev_geti dM_change_124 fM_103 rfl ?_
    rw [hsz2]
    refine ev_il dM_change_127 rfl (by first | assumption | rfl) ?_
    refine ev_add dM_change_128 ?_
    rw [nI_more (by omega), show e + w - g = e - g + w by omega]
    refine ev_puti dM_change_129 fM_103 fwM_size rfl (vp_nar_int _) rfl ?_
    refine ev_al dM_change_132 rfl (by first | assumption | rfl) ?_
    refine ev_const (v := nI 0) dM_change_133 (by decide) ?_
    refine ev_puti dM_change_134 fM_100 fwM_typed rfl (vp_nar_int _) rfl ?_
    refine ev_vret dM_change_137 rfl ?_
    refine ⟨rfl, ?_, ⟨(zI_k (by omega)).trans (zI_s _ _ _ _), hfit, fun i hi => ?_⟩, zI_s _ _ _ _⟩
    · exact (((hs1.weak (fun o i h => Or.inl h)).tr (hs2.weak (fun o i h => Or.inl h))).I (Or.inr ⟨rfl, Or.inl rfl⟩)).I (Or.inr ⟨rfl, Or.inr rfl⟩)
    · unfold eT
      by_cases h1 : i < p
      · rw [if_pos h1]
        exact ⟨(zI_o (by omega)).trans ((zI_o (by omega)).trans (k1 i h1)), (hT.2.2 i (by omega)).2⟩
      · rw [if_neg h1]
        by_cases h2 : i < p + w
        · rw [if_pos h2]
          have := k2 (i - p) (by omega)
          rw [show p + (i - p) = i by omega] at this
          exact ⟨(zI_o (by omega)).trans ((zI_o (by omega)).trans this), (hrow (i - p) (by omega)).2⟩
        · rw [if_neg h2]
          have := k3 (i - w + g) (by omega) (by omega)
          rw [show i - w + g + w - g = i by omega] at this
          exact ⟨(zI_o (by omega)).trans ((zI_o (by omega)).trans this), (hT.2.2 (i - w + g) (by omega)).2⟩
  · simp only [zcond] at h8
    rw [nI_dle (by omega) (by omega)] at h8
    refine ev_al dM_change_11 rfl (by first | assumption | rfl) ?_
    refine ev_geti dM_change_12 fM_103 rfl ?_
    rw [hT.1]
    refine ev_const (v := nI 1) dM_change_15 (by decide) ?_
    refine ev_sub dM_change_16 ?_
    rw [zd_1]
    refine ev_is dM_change_17 rfl (Nat.le_of_ble_eq_true rfl) ?_
    refine r_chg1 (t := t) (by omega) hpg hfit (fun i hi => (hT.2.2 i hi).2) e M _ (Nat.le_refl e) hpg hP (fun i hi => (hT.2.2 i hi).1) (fun i h1 h2 => absurd h2 (by omega)) rfl rfl rfl rfl rfl ?_
    intro M1 L1 hs1 g1 g2 a0 a1 a2 a3
    refine ev_const (v := nI 0) dM_change_88 (by decide) ?_
    refine ev_is dM_change_89 rfl (Nat.le_of_ble_eq_true rfl) ?_
    refine r_chg3 (t := t) (row := row) hw40 hpg he hfit w 0 M1 _ (by omega) (hs1.P hP) ((hs1.2 _ _ (by omega)).trans hw) (fun i hi => ⟨(hs1.2 _ _ (by omega)).trans (hrow i hi).1, (hrow i hi).2⟩) g1 (fun i hi => absurd hi (Nat.not_lt_zero i)) g2 a0 a1 a2 a3 rfl ?_
    intro M2 L2 hs2 k1 k2 k3 b0 b3
    have hP : M2.2.1 = zP0 n b := hs2.P (hs1.P hP)
    have hsz2 : M2.1 25 1 = nI e := (hs2.2 _ _ (by omega)).trans ((hs1.2 _ _ (by omega)).trans hT.1)
    refine ev_al dM_change_122 rfl (by first | assumption | rfl) ?_
    refine ev_al dM_change_123 rfl (by first | assumption | rfl) ?_
    refine ev_geti dM_change_124 fM_103 rfl ?_
    rw [hsz2]
    refine ev_il dM_change_127 rfl (by first | assumption | rfl) ?_
    refine ev_add dM_change_128 ?_
    rw [nI_more (by omega), show e + w - g = e - g + w by omega]
    refine ev_puti dM_change_129 fM_103 fwM_size rfl (vp_nar_int _) rfl ?_
    refine ev_al dM_change_132 rfl (by first | assumption | rfl) ?_
    refine ev_const (v := nI 0) dM_change_133 (by decide) ?_
    refine ev_puti dM_change_134 fM_100 fwM_typed rfl (vp_nar_int _) rfl ?_
    refine ev_vret dM_change_137 rfl ?_
    refine ⟨rfl, ?_, ⟨(zI_k (by omega)).trans (zI_s _ _ _ _), hfit, fun i hi => ?_⟩, zI_s _ _ _ _⟩
    · exact (((hs1.weak (fun o i h => Or.inl h)).tr (hs2.weak (fun o i h => Or.inl h))).I (Or.inr ⟨rfl, Or.inl rfl⟩)).I (Or.inr ⟨rfl, Or.inr rfl⟩)
    · unfold eT
      by_cases h1 : i < p
      · rw [if_pos h1]
        exact ⟨(zI_o (by omega)).trans ((zI_o (by omega)).trans (k1 i h1)), (hT.2.2 i (by omega)).2⟩
      · rw [if_neg h1]
        by_cases h2 : i < p + w
        · rw [if_pos h2]
          have := k2 (i - p) (by omega)
          rw [show p + (i - p) = i by omega] at this
          exact ⟨(zI_o (by omega)).trans ((zI_o (by omega)).trans this), (hrow (i - p) (by omega)).2⟩
        · rw [if_neg h2]
          have := k3 (i - w + g) (by omega) (by omega)
          rw [show i - w + g + w - g = i by omega] at this
          exact ⟨(zI_o (by omega)).trans ((zI_o (by omega)).trans this), (hT.2.2 (i - w + g) (by omega)).2⟩
end
