/- the reference: keepOld, tokenAt, compareTokens (rows laid by program) -/
section
variable {Lx : Nat} {xs : Nat → Int32} {d : Nat} {n b : Nat}
set_option maxRecDepth 100000 in
set_option maxHeartbeats 4000000 in
theorem r_keep1 {M0 : zM} {N : Nat} (hN : M0.1 25 5 = nI N) (hN2 : N ≤ 160) {Q : zQ} : ∀ (f k : Nat) (M : zM) (L : Nat → Value), k + f = N → M.2.1 = zP0 n b → zSame (fun o _ => o = 31 ∨ o = 32 ∨ o = 33) M0 M → (∀ j, j < k → M.1 31 j = M0.1 28 j ∧ M.1 32 j = M0.1 29 j ∧ M.1 33 j = M0.1 30 j) → L 0 = .ref 25 → L 1 = .int (nI k) → (∀ (M' : zM) (L' : Nat → Value), zSame (fun o _ => o = 31 ∨ o = 32 ∨ o = 33) M0 M' → (∀ j, j < N → M'.1 31 j = M0.1 28 j ∧ M'.1 32 j = M0.1 29 j ∧ M'.1 33 j = M0.1 30 j) → L' 0 = .ref 25 → Ev Lx xs d mM_keepOld 60 L' [] M' Q) → Ev Lx xs d mM_keepOld 10 L [] M Q := by
  intro f
  induction f with
  | zero =>
    intro k M L hf hP hs hc hL0 hL1 hK
    refine ev_il dM_keepOld_10 rfl (by first | assumption | rfl) ?_
    refine ev_al dM_keepOld_11 rfl (by first | assumption | rfl) ?_
    refine ev_geti dM_keepOld_12 fM_106 rfl ?_
    rw [(hs.2 _ _ (by omega)).trans hN]
    refine ev_icmp (tgt := 60) dM_keepOld_15 (by decide) (fun h15 => ?_) (fun h15 => ?_)
    · try simp (disch := omega) only [zcond, nI_ltI, nI_leI, nI_eq, zb0, Classical.not_not, Bool.not_eq_false, Bool.not_eq_true, Nat.not_lt, Nat.not_le] at h15
      exact hK M L hs (fun j hj => hc j (by omega)) hL0
    · first | omega | (simp (disch := omega) only [zcond, nI_ltI, nI_leI, nI_eq] at h15; omega)
  | succ f ih =>
    intro k M L hf hP hs hc hL0 hL1 hK
    refine ev_il dM_keepOld_10 rfl (by first | assumption | rfl) ?_
    refine ev_al dM_keepOld_11 rfl (by first | assumption | rfl) ?_
    refine ev_geti dM_keepOld_12 fM_106 rfl ?_
    rw [(hs.2 _ _ (by omega)).trans hN]
    refine ev_icmp (tgt := 60) dM_keepOld_15 (by decide) (fun h15 => ?_) (fun h15 => ?_)
    · first | omega | (simp (disch := omega) only [zcond, nI_ltI, nI_leI, nI_eq] at h15; omega)
    · try simp (disch := omega) only [zcond, nI_ltI, nI_leI, nI_eq, zb0, Classical.not_not, Bool.not_eq_false, Bool.not_eq_true, Nat.not_lt, Nat.not_le] at h15
      refine ev_al dM_keepOld_18 rfl (by first | assumption | rfl) ?_
      refine ev_getrP dM_keepOld_19 fM_26 rfl (zq (q := 31) hP rfl) ?_
      refine ev_il dM_keepOld_22 rfl (by first | assumption | rfl) ?_
      refine ev_al dM_keepOld_23 rfl (by first | assumption | rfl) ?_
      refine ev_getrP dM_keepOld_24 fM_16 rfl (zq (q := 28) hP rfl) ?_
      refine ev_il dM_keepOld_27 rfl (by first | assumption | rfl) ?_
      refine ev_aldN dM_keepOld_28 rfl rfl (by omega) ?_
      rw [hs.2 _ _ (by omega)]
      refine ev_iastN dM_keepOld_29 rfl (by omega) ?_
      refine ev_al dM_keepOld_30 rfl (by first | assumption | rfl) ?_
      refine ev_getrP dM_keepOld_31 fM_29 rfl (zq (q := 32) hP rfl) ?_
      refine ev_il dM_keepOld_34 rfl (by first | assumption | rfl) ?_
      refine ev_al dM_keepOld_35 rfl (by first | assumption | rfl) ?_
      refine ev_getrP dM_keepOld_36 fM_20 rfl (zq (q := 29) hP rfl) ?_
      refine ev_il dM_keepOld_39 rfl (by first | assumption | rfl) ?_
      refine ev_aldN dM_keepOld_40 rfl rfl (by omega) ?_
      rw [show (zI M 31 k (M0.1 28 k)).1 29 k = M0.1 29 k from (zI_o (by omega)).trans (hs.2 _ _ (by omega))]
      refine ev_iastN dM_keepOld_41 rfl (by omega) ?_
      refine ev_al dM_keepOld_42 rfl (by first | assumption | rfl) ?_
      refine ev_getrP dM_keepOld_43 fM_32 rfl (zq (q := 33) hP rfl) ?_
      refine ev_il dM_keepOld_46 rfl (by first | assumption | rfl) ?_
      refine ev_al dM_keepOld_47 rfl (by first | assumption | rfl) ?_
      refine ev_getrP dM_keepOld_48 fM_23 rfl (zq (q := 30) hP rfl) ?_
      refine ev_il dM_keepOld_51 rfl (by first | assumption | rfl) ?_
      refine ev_aldN dM_keepOld_52 rfl rfl (by omega) ?_
      rw [show (zI (zI M 31 k (M0.1 28 k)) 32 k (M0.1 29 k)).1 30 k = M0.1 30 k from (zI_o (by omega)).trans ((zI_o (by omega)).trans (hs.2 _ _ (by omega)))]
      refine ev_iastN dM_keepOld_53 rfl (by omega) ?_
      refine ev_inc1 dM_keepOld_54 (by first | assumption | rfl) ?_
      refine ev_goto (tgt := 10) dM_keepOld_57 (by decide) ?_
      refine ih (k + 1) (zI (zI (zI M 31 k (M0.1 28 k)) 32 k (M0.1 29 k)) 33 k (M0.1 30 k)) _ (by omega) hP (((hs.I (Or.inl rfl)).I (Or.inr (Or.inl rfl))).I (Or.inr (Or.inr rfl))) (fun j hj => ?_) (by first | assumption | rfl) rfl hK
      by_cases hjk : j = k
      · subst hjk
        exact ⟨(zI_o (by omega)).trans ((zI_o (by omega)).trans (zI_s _ _ _ _)), (zI_o (by omega)).trans (zI_s _ _ _ _), zI_s _ _ _ _⟩
      · obtain ⟨h1, h2, h3⟩ := hc j (by omega)
        exact ⟨(zI_o (by omega)).trans ((zI_o (by omega)).trans ((zI_k hjk).trans h1)), (zI_o (by omega)).trans ((zI_k hjk).trans ((zI_o (by omega)).trans h2)), (zI_k hjk).trans ((zI_o (by omega)).trans ((zI_o (by omega)).trans h3))⟩
set_option maxRecDepth 100000 in
set_option maxHeartbeats 4000000 in
theorem r_keep2 {M0 : zM} {N : Nat} (hN : M0.1 25 14 = nI N) (hN2 : N ≤ 160) {Q : zQ} : ∀ (f k : Nat) (M : zM) (L : Nat → Value), k + f = N → M.2.1 = zP0 n b → zSame (fun o _ => o = 42 ∨ o = 43 ∨ o = 44) M0 M → (∀ j, j < k → M.1 42 j = M0.1 35 j ∧ M.1 43 j = M0.1 36 j ∧ M.1 44 j = M0.1 40 j) → L 0 = .ref 25 → L 1 = .int (nI k) → (∀ (M' : zM) (L' : Nat → Value), zSame (fun o _ => o = 42 ∨ o = 43 ∨ o = 44) M0 M' → (∀ j, j < N → M'.1 42 j = M0.1 35 j ∧ M'.1 43 j = M0.1 36 j ∧ M'.1 44 j = M0.1 40 j) → L' 0 = .ref 25 → Ev Lx xs d mM_keepOld 120 L' [] M' Q) → Ev Lx xs d mM_keepOld 70 L [] M Q := by
  intro f
  induction f with
  | zero =>
    intro k M L hf hP hs hc hL0 hL1 hK
    refine ev_il dM_keepOld_70 rfl (by first | assumption | rfl) ?_
    refine ev_al dM_keepOld_71 rfl (by first | assumption | rfl) ?_
    refine ev_geti dM_keepOld_72 fM_146 rfl ?_
    rw [(hs.2 _ _ (by omega)).trans hN]
    refine ev_icmp (tgt := 120) dM_keepOld_75 (by decide) (fun h75 => ?_) (fun h75 => ?_)
    · try simp (disch := omega) only [zcond, nI_ltI, nI_leI, nI_eq, zb0, Classical.not_not, Bool.not_eq_false, Bool.not_eq_true, Nat.not_lt, Nat.not_le] at h75
      exact hK M L hs (fun j hj => hc j (by omega)) hL0
    · first | omega | (simp (disch := omega) only [zcond, nI_ltI, nI_leI, nI_eq] at h75; omega)
  | succ f ih =>
    intro k M L hf hP hs hc hL0 hL1 hK
    refine ev_il dM_keepOld_70 rfl (by first | assumption | rfl) ?_
    refine ev_al dM_keepOld_71 rfl (by first | assumption | rfl) ?_
    refine ev_geti dM_keepOld_72 fM_146 rfl ?_
    rw [(hs.2 _ _ (by omega)).trans hN]
    refine ev_icmp (tgt := 120) dM_keepOld_75 (by decide) (fun h75 => ?_) (fun h75 => ?_)
    · first | omega | (simp (disch := omega) only [zcond, nI_ltI, nI_leI, nI_eq] at h75; omega)
    · try simp (disch := omega) only [zcond, nI_ltI, nI_leI, nI_eq, zb0, Classical.not_not, Bool.not_eq_false, Bool.not_eq_true, Nat.not_lt, Nat.not_le] at h75
      refine ev_al dM_keepOld_78 rfl (by first | assumption | rfl) ?_
      refine ev_getrP dM_keepOld_79 fM_60 rfl (zq (q := 42) hP rfl) ?_
      refine ev_il dM_keepOld_82 rfl (by first | assumption | rfl) ?_
      refine ev_al dM_keepOld_83 rfl (by first | assumption | rfl) ?_
      refine ev_getrP dM_keepOld_84 fM_38 rfl (zq (q := 35) hP rfl) ?_
      refine ev_il dM_keepOld_87 rfl (by first | assumption | rfl) ?_
      refine ev_aldN dM_keepOld_88 rfl rfl (by omega) ?_
      rw [hs.2 _ _ (by omega)]
      refine ev_iastN dM_keepOld_89 rfl (by omega) ?_
      refine ev_al dM_keepOld_90 rfl (by first | assumption | rfl) ?_
      refine ev_getrP dM_keepOld_91 fM_63 rfl (zq (q := 43) hP rfl) ?_
      refine ev_il dM_keepOld_94 rfl (by first | assumption | rfl) ?_
      refine ev_al dM_keepOld_95 rfl (by first | assumption | rfl) ?_
      refine ev_getrP dM_keepOld_96 fM_41 rfl (zq (q := 36) hP rfl) ?_
      refine ev_il dM_keepOld_99 rfl (by first | assumption | rfl) ?_
      refine ev_aldN dM_keepOld_100 rfl rfl (by omega) ?_
      rw [show (zI M 42 k (M0.1 35 k)).1 36 k = M0.1 36 k from (zI_o (by omega)).trans (hs.2 _ _ (by omega))]
      refine ev_iastN dM_keepOld_101 rfl (by omega) ?_
      refine ev_al dM_keepOld_102 rfl (by first | assumption | rfl) ?_
      refine ev_getrP dM_keepOld_103 fM_66 rfl (zq (q := 44) hP rfl) ?_
      refine ev_il dM_keepOld_106 rfl (by first | assumption | rfl) ?_
      refine ev_al dM_keepOld_107 rfl (by first | assumption | rfl) ?_
      refine ev_getrP dM_keepOld_108 fM_54 rfl (zq (q := 40) hP rfl) ?_
      refine ev_il dM_keepOld_111 rfl (by first | assumption | rfl) ?_
      refine ev_aldN dM_keepOld_112 rfl rfl (by omega) ?_
      rw [show (zI (zI M 42 k (M0.1 35 k)) 43 k (M0.1 36 k)).1 40 k = M0.1 40 k from (zI_o (by omega)).trans ((zI_o (by omega)).trans (hs.2 _ _ (by omega)))]
      refine ev_iastN dM_keepOld_113 rfl (by omega) ?_
      refine ev_inc1 dM_keepOld_114 (by first | assumption | rfl) ?_
      refine ev_goto (tgt := 70) dM_keepOld_117 (by decide) ?_
      refine ih (k + 1) (zI (zI (zI M 42 k (M0.1 35 k)) 43 k (M0.1 36 k)) 44 k (M0.1 40 k)) _ (by omega) hP (((hs.I (Or.inl rfl)).I (Or.inr (Or.inl rfl))).I (Or.inr (Or.inr rfl))) (fun j hj => ?_) (by first | assumption | rfl) rfl hK
      by_cases hjk : j = k
      · subst hjk
        exact ⟨(zI_o (by omega)).trans ((zI_o (by omega)).trans (zI_s _ _ _ _)), (zI_o (by omega)).trans (zI_s _ _ _ _), zI_s _ _ _ _⟩
      · obtain ⟨h1, h2, h3⟩ := hc j (by omega)
        exact ⟨(zI_o (by omega)).trans ((zI_o (by omega)).trans ((zI_k hjk).trans h1)), (zI_o (by omega)).trans ((zI_k hjk).trans ((zI_o (by omega)).trans h2)), (zI_k hjk).trans ((zI_o (by omega)).trans ((zI_o (by omega)).trans h3))⟩
def sKo : Nat → Nat → Prop := fun o i => (o = 25 ∧ (i = 9 ∨ i = 23)) ∨ o = 31 ∨ o = 32 ∨ o = 33 ∨ o = 42 ∨ o = 43 ∨ o = 44
set_option maxRecDepth 100000 in
set_option maxHeartbeats 4000000 in
theorem r_keep1_60 {M1 : zM} {c : Nat} (hit : M1.1 25 14 = nI c) {L : Nat → Value} (hL0 : L 0 = .ref 25) {Q : zQ} (hK : ∀ L' : Nat → Value, L' 0 = .ref 25 → L' 1 = .int (nI 0) → Ev Lx xs d mM_keepOld 70 L' [] (zI M1 25 23 (M1.1 25 14)) Q) : Ev Lx xs d mM_keepOld 60 L [] M1 Q := by
  refine ev_al dM_keepOld_60 rfl (by first | assumption | rfl) ?_
  refine ev_al dM_keepOld_61 rfl (by first | assumption | rfl) ?_
  refine ev_geti dM_keepOld_62 fM_146 rfl ?_
  refine ev_puti dM_keepOld_65 fM_232 fwM_oldItems rfl (vp_nar_int _) rfl ?_
  refine ev_const (v := nI 0) dM_keepOld_68 (by decide) ?_
  refine ev_is dM_keepOld_69 rfl (Nat.le_of_ble_eq_true rfl) ?_
  exact hK _ (by first | assumption | rfl) rfl
set_option maxRecDepth 100000 in
set_option maxHeartbeats 4000000 in
theorem r_keepOld {M : zM} {N c : Nat} (hP : M.2.1 = zP0 n b) (hn : M.1 25 5 = nI N) (hn2 : N ≤ 160) (hi : M.1 25 14 = nI c) (hi2 : c ≤ 160) : Ct Lx xs d mM_keepOld [.ref 25] M (fun z M' => z = none ∧ zSame sKo M M' ∧ M'.1 25 9 = nI N ∧ M'.1 25 23 = nI c ∧ (∀ j, j < N → M'.1 31 j = M.1 28 j ∧ M'.1 32 j = M.1 29 j ∧ M'.1 33 j = M.1 30 j) ∧ ∀ j, j < c → M'.1 42 j = M.1 35 j ∧ M'.1 43 j = M.1 36 j ∧ M'.1 44 j = M.1 40 j) := by
  unfold Ct
  refine ev_al dM_keepOld_0 rfl (by first | assumption | rfl) ?_
  refine ev_al dM_keepOld_1 rfl (by first | assumption | rfl) ?_
  refine ev_geti dM_keepOld_2 fM_106 rfl ?_
  refine ev_puti dM_keepOld_5 fM_229 fwM_oldTokens rfl (vp_nar_int _) rfl ?_
  refine ev_const (v := nI 0) dM_keepOld_8 (by decide) ?_
  refine ev_is dM_keepOld_9 rfl (Nat.le_of_ble_eq_true rfl) ?_
  refine r_keep1 (M0 := zI M 25 9 (M.1 25 5)) ((zI_k (by omega)).trans hn) hn2 N 0 _ _ (by omega) hP (zSame.rf _ _) (fun j hj => absurd hj (Nat.not_lt_zero j)) rfl rfl ?_
  intro M1 L1 hs1 hc1 a1
  have hit : M1.1 25 14 = nI c := (hs1.2 _ _ (by omega)).trans ((zI_k (by omega)).trans hi)
  refine r_keep1_60 hit a1 (fun L3 b0 b1 => ?_)
  refine r_keep2 (M0 := zI M1 25 23 (M1.1 25 14)) ((zI_k (by omega)).trans hit) hi2 c 0 _ _ (by omega) (by show M1.2.1 = _; rw [hs1.1]; exact hP) (zSame.rf _ _) (fun j hj => absurd hj (Nat.not_lt_zero j)) b0 b1 ?_
  intro M2 L2 hs2 hc2 a2
  refine ev_vret dM_keepOld_120 rfl ⟨rfl, ?_, ?_, ?_, ?_, ?_⟩
  · exact (((zSame.I (S := sKo) (zSame.rf _ M) (Or.inl ⟨rfl, Or.inl rfl⟩)).tr (hs1.weak (fun o i h => by unfold sKo; omega))).I (o := 25) (k := 23) (x := M1.1 25 14) (Or.inl ⟨rfl, Or.inr rfl⟩)).tr (hs2.weak (fun o i h => by unfold sKo; omega))
  · rw [hs2.2 _ _ (by omega), zI_k (by omega), hs1.2 _ _ (by omega), zI_s]; exact hn
  · rw [hs2.2 _ _ (by omega), zI_s]; exact hit
  · intro j hj
    obtain ⟨h1, h2, h3⟩ := hc1 j hj
    exact ⟨((hs2.2 _ _ (by omega)).trans (zI_o (by omega))).trans (h1.trans (zI_o (by omega))), ((hs2.2 _ _ (by omega)).trans (zI_o (by omega))).trans (h2.trans (zI_o (by omega))), ((hs2.2 _ _ (by omega)).trans (zI_o (by omega))).trans (h3.trans (zI_o (by omega)))⟩
  · intro j hj
    obtain ⟨h1, h2, h3⟩ := hc2 j hj
    exact ⟨h1.trans ((zI_o (by omega)).trans ((hs1.2 _ _ (by omega)).trans (zI_o (by omega)))), h2.trans ((zI_o (by omega)).trans ((hs1.2 _ _ (by omega)).trans (zI_o (by omega)))), h3.trans ((zI_o (by omega)).trans ((hs1.2 _ _ (by omega)).trans (zI_o (by omega))))⟩
def tAt (ts : List (Nat × Nat × Nat)) (q : Nat × Nat × Nat) : Nat → Nat → Int32
  | 0, _ => -1
  | f + 1, k => if (tk ts k).1 = q.1 ∧ (tk ts k).2.1 = q.2.1 ∧ (tk ts k).2.2 = q.2.2 then nI k else tAt ts q f (k + 1)
set_option maxRecDepth 100000 in
set_option maxHeartbeats 4000000 in
theorem r_tokenAtL {M : zM} {e : Nat} {ts : List (Nat × Nat × Nat)} {q : Nat × Nat × Nat} (hP : M.2.1 = zP0 n b) (hk : TkM M ts) (ho : tsOk e ts) (hq : q.1 < 2 ^ 31 ∧ q.2.1 < 2 ^ 31 ∧ q.2.2 < 2 ^ 31) {R : Option Int32 → zM → Prop} : ∀ (f k : Nat) (L : Nat → Value), k + f = ts.length → L 0 = .ref 25 → L 1 = .int (nI q.1) → L 2 = .int (nI q.2.1) → L 3 = .int (nI q.2.2) → L 4 = .int (nI k) → R (some (tAt ts q f k)) M → Ev Lx xs d mM_tokenAt 3 L [] M (zpost mM_tokenAt R) := by
  have he := ho.1
  have hlen := ho.2.1
  intro f
  induction f with
  | zero =>
    intro k L hf hL0 hL1 hL2 hL3 hL4 hR
    refine ev_il dM_tokenAt_3 rfl (by first | assumption | rfl) ?_
    refine ev_al dM_tokenAt_5 rfl (by first | assumption | rfl) ?_
    refine ev_geti dM_tokenAt_6 fM_106 rfl ?_
    rw [hk.1]
    refine ev_icmp (tgt := 54) dM_tokenAt_9 (by decide) (fun h9 => ?_) (fun h9 => ?_)
    · try simp (disch := omega) only [zcond, nI_ltI, nI_leI, nI_eq, zb0, Classical.not_not, Bool.not_eq_false, Bool.not_eq_true, Nat.not_lt, Nat.not_le] at h9
      refine ev_const (v := -1) dM_tokenAt_54 (by decide) ?_
      refine ev_ret dM_tokenAt_55 rfl rfl ?_
      exact hR
    · first | omega | (simp (disch := omega) only [zcond, nI_ltI, nI_leI, nI_eq] at h9; omega)
  | succ f ih =>
    intro k L hf hL0 hL1 hL2 hL3 hL4 hR
    refine ev_il dM_tokenAt_3 rfl (by first | assumption | rfl) ?_
    refine ev_al dM_tokenAt_5 rfl (by first | assumption | rfl) ?_
    refine ev_geti dM_tokenAt_6 fM_106 rfl ?_
    rw [hk.1]
    refine ev_icmp (tgt := 54) dM_tokenAt_9 (by decide) (fun h9 => ?_) (fun h9 => ?_)
    · first | omega | (simp (disch := omega) only [zcond, nI_ltI, nI_leI, nI_eq] at h9; omega)
    · try simp (disch := omega) only [zcond, nI_ltI, nI_leI, nI_eq, zb0, Classical.not_not, Bool.not_eq_false, Bool.not_eq_true, Nat.not_lt, Nat.not_le] at h9
      refine ev_al dM_tokenAt_12 rfl (by first | assumption | rfl) ?_
      refine ev_getrP dM_tokenAt_13 fM_16 rfl (zq (q := 28) hP rfl) ?_
      refine ev_il dM_tokenAt_16 rfl (by first | assumption | rfl) ?_
      refine ev_aldN dM_tokenAt_18 rfl rfl (by omega) ?_
      obtain ⟨hq1, hq2, hq3⟩ := hk.2 k _ (tk_at (show k < ts.length by omega))
      have hin := tV_in ho (show k < ts.length by omega)
      have hkd := ho.2.2.1 k _ (tk_at (show k < ts.length by omega))
      rw [hq1]
      refine ev_il dM_tokenAt_19 rfl (by first | assumption | rfl) ?_
      refine ev_icmp (tgt := 48) dM_tokenAt_20 (by decide) (fun h20 => ?_) (fun h20 => ?_)
      · try simp (disch := omega) only [zcond, nI_ltI, nI_leI, nI_eq, zb0, Classical.not_not, Bool.not_eq_false, Bool.not_eq_true, Nat.not_lt, Nat.not_le] at h20
        refine ev_inc1 dM_tokenAt_48 (by first | assumption | rfl) ?_
        refine ev_goto (tgt := 3) dM_tokenAt_51 (by decide) ?_
        refine ih (k + 1) _ (by omega) (by first | assumption | rfl) (by first | assumption | rfl) (by first | assumption | rfl) (by first | assumption | rfl) rfl ?_
        rw [tAt, if_neg (by rintro ⟨g1, g2, g3⟩; first | exact h20 g1 | exact h31 g2 | exact h42 g3)] at hR
        exact hR
      · try simp (disch := omega) only [zcond, nI_ltI, nI_leI, nI_eq, zb0, Classical.not_not, Bool.not_eq_false, Bool.not_eq_true, Nat.not_lt, Nat.not_le] at h20
        refine ev_al dM_tokenAt_23 rfl (by first | assumption | rfl) ?_
        refine ev_getrP dM_tokenAt_24 fM_20 rfl (zq (q := 29) hP rfl) ?_
        refine ev_il dM_tokenAt_27 rfl (by first | assumption | rfl) ?_
        refine ev_aldN dM_tokenAt_29 rfl rfl (by omega) ?_
        rw [hq2]
        refine ev_il dM_tokenAt_30 rfl (by first | assumption | rfl) ?_
        refine ev_icmp (tgt := 48) dM_tokenAt_31 (by decide) (fun h31 => ?_) (fun h31 => ?_)
        · try simp (disch := omega) only [zcond, nI_ltI, nI_leI, nI_eq, zb0, Classical.not_not, Bool.not_eq_false, Bool.not_eq_true, Nat.not_lt, Nat.not_le] at h31
          refine ev_inc1 dM_tokenAt_48 (by first | assumption | rfl) ?_
          refine ev_goto (tgt := 3) dM_tokenAt_51 (by decide) ?_
          refine ih (k + 1) _ (by omega) (by first | assumption | rfl) (by first | assumption | rfl) (by first | assumption | rfl) (by first | assumption | rfl) rfl ?_
          rw [tAt, if_neg (by rintro ⟨g1, g2, g3⟩; first | exact h20 g1 | exact h31 g2 | exact h42 g3)] at hR
          exact hR
        · try simp (disch := omega) only [zcond, nI_ltI, nI_leI, nI_eq, zb0, Classical.not_not, Bool.not_eq_false, Bool.not_eq_true, Nat.not_lt, Nat.not_le] at h31
          refine ev_al dM_tokenAt_34 rfl (by first | assumption | rfl) ?_
          refine ev_getrP dM_tokenAt_35 fM_23 rfl (zq (q := 30) hP rfl) ?_
          refine ev_il dM_tokenAt_38 rfl (by first | assumption | rfl) ?_
          refine ev_aldN dM_tokenAt_40 rfl rfl (by omega) ?_
          rw [hq3]
          refine ev_il dM_tokenAt_41 rfl (by first | assumption | rfl) ?_
          refine ev_icmp (tgt := 48) dM_tokenAt_42 (by decide) (fun h42 => ?_) (fun h42 => ?_)
          · try simp (disch := omega) only [zcond, nI_ltI, nI_leI, nI_eq, zb0, Classical.not_not, Bool.not_eq_false, Bool.not_eq_true, Nat.not_lt, Nat.not_le] at h42
            refine ev_inc1 dM_tokenAt_48 (by first | assumption | rfl) ?_
            refine ev_goto (tgt := 3) dM_tokenAt_51 (by decide) ?_
            refine ih (k + 1) _ (by omega) (by first | assumption | rfl) (by first | assumption | rfl) (by first | assumption | rfl) (by first | assumption | rfl) rfl ?_
            rw [tAt, if_neg (by rintro ⟨g1, g2, g3⟩; first | exact h20 g1 | exact h31 g2 | exact h42 g3)] at hR
            exact hR
          · try simp (disch := omega) only [zcond, nI_ltI, nI_leI, nI_eq, zb0, Classical.not_not, Bool.not_eq_false, Bool.not_eq_true, Nat.not_lt, Nat.not_le] at h42
            refine ev_il dM_tokenAt_45 rfl (by first | assumption | rfl) ?_
            refine ev_ret dM_tokenAt_47 rfl rfl ?_
            rw [tAt, if_pos (And.intro h20 (And.intro h31 h42))] at hR
            exact hR
set_option maxRecDepth 100000 in
set_option maxHeartbeats 4000000 in
theorem r_tokenAt {M : zM} {e : Nat} {ts : List (Nat × Nat × Nat)} {q : Nat × Nat × Nat} (hP : M.2.1 = zP0 n b) (hk : TkM M ts) (ho : tsOk e ts) (hq : q.1 < 2 ^ 31 ∧ q.2.1 < 2 ^ 31 ∧ q.2.2 < 2 ^ 31) : Pu Lx xs d mM_tokenAt [.ref 25, .int (nI q.1), .int (nI q.2.1), .int (nI q.2.2)] M (tAt ts q ts.length 0) := by
  unfold Pu Ct
  refine ev_const (v := nI 0) dM_tokenAt_0 (by decide) ?_
  refine ev_is dM_tokenAt_1 rfl (Nat.le_of_ble_eq_true rfl) ?_
  exact r_tokenAtL hP hk ho hq ts.length 0 _ (by omega) rfl rfl rfl rfl rfl ⟨rfl, rfl⟩
end
