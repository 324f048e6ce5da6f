/- KeptItems: edit (rows laid by program) -/
theorem due_mono {e p g w : Nat} {ts : List (Nat × Nat × Nat)} (h : tsOk e ts) : ∀ i i', i < i' → i' < ts.length → ∀ x y, dueV p g w (tV ts i) = some x → dueV p g w (tV ts i') = some y → x < y := by
  intro i i' hii hi x y hx hy
  have h1 := tV_in h (show i < ts.length by omega)
  have h2 := tV_in h hi
  have h3 := tV_lt h hii hi
  have h4 := h.2.2.2 i i' _ _ hii (tk_at (by omega)) (tk_at hi)
  have h0 := h.1
  unfold dueV at hx hy
  split at hx
  · cases hx
    split at hy
    · cases hy; exact h3
    · split at hy
      · cases hy; omega
      · cases hy
  · split at hx
    · cases hx
      split at hy
      · cases hy; omega
      · split at hy
        · cases hy; omega
        · cases hy
    · cases hx
theorem oO_lt {p g w : Nat} {V0 V1 : Nat → Nat} {k : Nat} : ∀ (m i : Nat), oO p g w V0 V1 k m = some i → i < m
  | 0, i, h => by simp [oO] at h
  | m + 1, i, h => by
    unfold oO at h
    split at h
    · cases h; exact Nat.lt_succ_self _
    · exact Nat.lt_succ_of_lt (oO_lt m i h)
theorem tFi_in {fi la : Nat → Nat} {a z : Nat} : ∀ (f k : Nat), tFi fi la a z f k = -1 ∨ ∃ j, j < k + f ∧ tFi fi la a z f k = nI j
  | 0, k => Or.inl rfl
  | f + 1, k => by
    unfold tFi
    split
    · exact Or.inr ⟨k, by omega, rfl⟩
    · rcases tFi_in f (k + 1) with h | ⟨j, h1, h2⟩
      · exact Or.inl h
      · exact Or.inr ⟨j, by omega, h2⟩
theorem oItem_in {O : Nat → Option Nat} {fi0 la0 : Nat → Nat} {c0 a z : Nat} : oItem O fi0 la0 c0 a z = -1 ∨ ∃ j, j < c0 ∧ oItem O fi0 la0 c0 a z = nI j := by
  unfold oItem
  split
  · exact Or.inl rfl
  · split
    · rcases tFi_in (fi := fi0) (la := la0) (a := _) (z := _) c0 0 with h | ⟨j, h1, h2⟩
      · exact Or.inl h
      · exact Or.inr ⟨j, by omega, h2⟩
    · exact Or.inl rfl
/-- a reading's text, tokens and items, as an edit uses them -/
def Old (M : zM) (r e : Nat) (t : Nat → Nat) (ts : List (Nat × Nat × Nat)) (c0 : Nat) (fi0 la0 : Nat → Nat) : Prop := Txt M r t e ∧ Toks M r t ts ∧ tsOk e ts ∧ M.1 (r + 2) 5 = nI c0 ∧ c0 ≤ 160 ∧ ∀ k, k < c0 → M.1 (r + 6) k = nI (fi0 k) ∧ M.1 (r + 7) k = nI (la0 k) ∧ fi0 k < 2 ^ 31 ∧ la0 k < 2 ^ 31
def eA (t' : Nat → Nat) (ts' : List (Nat × Nat × Nat)) (T0 : pTr) : pE × pTr := pA ts'.length (tMk t' ts') (tTv t' ts') (tSl ts') (tSm t' ts') 160 0 (0, false) T0
def eO (p g w : Nat) (ts ts' : List (Nat × Nat × Nat)) (j : Nat) : Option Nat := oO p g w (tV ts) (tV ts') j ts.length
def eI (p g w : Nat) (ts ts' : List (Nat × Nat × Nat)) (c0 : Nat) (fi0 la0 : Nat → Nat) (T : pTr) (k : Nat) : Int32 := oItem (eO p g w ts ts') fi0 la0 c0 (T.2.1 k).toNatClampNeg (T.2.2.1 k).toNatClampNeg
/-- what an edit leaves: the reading n is the new one; b the old one; num0 the old numbers -/
def EdR (M M' : zM) (n b e' : Nat) (t' : Nat → Nat) (ts' : List (Nat × Nat × Nat)) (A : pE × pTr) (x : Nat × Nat × (Nat → Int32)) : Prop :=
  M'.2.1 = zP0 n b ∧ M'.2.2 = M.2.2 ∧ Txt M' n t' e' ∧ Toks M' n t' ts' ∧ M'.1 n 2 = nI A.1.1 ∧ M'.1 n 3 = nI A.1.2.toNat ∧ M'.1 (n + 2) 5 = nI A.2.1 ∧ (∀ k, M'.1 (n + 6) k = A.2.2.1 k ∧ M'.1 (n + 7) k = A.2.2.2.1 k ∧ M'.1 (n + 8) k = A.2.2.2.2.1 k ∧ M'.1 (n + 9) k = A.2.2.2.2.2 k ∧ M'.1 (n + 10) k = x.2.2 k) ∧ M'.1 0 5 = nI x.1 ∧ M'.1 0 6 = nI x.2.1 ∧ M'.1 0 1 = nI 0 ∧ ∀ o i, 25 ≤ o → M'.1 o i = M.1 o i
section
variable {Lx : Nat} {xs : Nat → Int32} {D0 : Nat} {M : zM} {n b : Nat}
set_option maxRecDepth 100000 in
set_option maxHeartbeats 4000000 in
theorem l_edit {w e p g gi c0 : Nat} {row t fi0 la0 : Nat → Nat} {ts : List (Nat × Nat × Nat)} (hP : M.2.1 = zP0 n b) (hnb : (n = 2 ∧ b = 13) ∨ (n = 13 ∧ b = 2)) (hw : M.1 0 1 = nI w) (hw40 : w ≤ 40) (hrow : ∀ i, i < w → M.1 1 i = nI (row i) ∧ row i < 128) (hOl : Old M b e t ts c0 fi0 la0) (hpg : p + g ≤ e) (hfit : e - g + w ≤ 160) (hgi : M.1 0 6 = nI gi) {R : Option Int32 → zM → Prop} (hR : ∀ (M' : zM) (T0 : pTr) (N0 : Nat → Int32), T0.1 = 0 → EdR M M' n b (e - g + w) (eT t row p g w) (lAll (eT t row p g w) (e - g + w)) (eA (eT t row p g w) (lAll (eT t row p g w) (e - g + w)) T0) (nGo (eI p g w ts (lAll (eT t row p g w) (e - g + w)) c0 fi0 la0 (eA (eT t row p g w) (lAll (eT t row p g w) (e - g + w)) T0).2) (M.1 (b + 10)) (eA (eT t row p g w) (lAll (eT t row p g w) (e - g + w)) T0).2.1 0 (0, gi, N0)) → M'.1 0 1 = nI 0 → R (some (nI (lAll (eT t row p g w) (e - g + w)).length - nI (oC p g w (tV ts) (tV (lAll (eT t row p g w) (e - g + w))) (lAll (eT t row p g w) (e - g + w)).length ts.length))) M') (L : Nat → Value) (hL0 : L 0 = .ref 0) (hL1 : L 1 = .int (nI p)) (hL2 : L 2 = .int (nI g)) (hL4 : L 4 = .ref b) : Ev Lx xs (D0 + 1152) mK_edit 81 L [] M (zpost mK_edit R) := by
  have hn : zR n := by unfold zR; omega
  have hb : zR b := by unfold zR; omega
  have he := hOl.1.2.1
  refine ev_al dK_edit_81 rfl (by first | assumption | rfl) ?_
  refine ev_getrP dK_edit_82 fK_16 rfl (zq (q := n) hP rfl) ?_
  refine ev_getrP dK_edit_85 fK_31 (sh_R hn) (zq hP (pt_source hn)) ?_
  refine ev_al dK_edit_88 rfl (by first | assumption | rfl) ?_
  refine ev_getrP dK_edit_90 fK_31 (sh_R hb) (zq hP (pt_source hb)) ?_
  refine ev_il dK_edit_93 rfl (by first | assumption | rfl) ?_
  refine ev_il dK_edit_94 rfl (by first | assumption | rfl) ?_
  refine ev_al dK_edit_95 rfl (by first | assumption | rfl) ?_
  refine ev_getrP dK_edit_96 fK_9 rfl (zq (q := 1) hP rfl) ?_
  refine ev_al dK_edit_99 rfl (by first | assumption | rfl) ?_
  refine ev_geti dK_edit_100 fK_27 rfl ?_
  rw [hw]
  refine ev_cV dK_edit_103 (c_fill hP hn hb (by omega) hOl.1 hrow hpg hw40 hfit) lK_46 (rec_S hn) rfl (Nat.le_of_ble_eq_true rfl) rfl (Nat.le_of_ble_eq_true rfl) (fun q M2 hq2 => ?_)
  obtain ⟨rfl, hs2, hT2⟩ := hq2
  have hP := hs2.P hP
  refine ev_al dK_edit_106 rfl (by first | assumption | rfl) ?_
  refine ev_getrP dK_edit_107 fK_16 rfl (zq (q := n) hP rfl) ?_
  refine ev_getrP dK_edit_110 fK_31 (sh_R hn) (zq hP (pt_source hn)) ?_
  refine ev_cV dK_edit_113 (c_findTokens hP hn hT2) lK_50 (rec_S hn) rfl (Nat.le_of_ble_eq_true rfl) rfl (Nat.le_of_ble_eq_true rfl) (fun q M3 hq3 => ?_)
  obtain ⟨rfl, hs3, hk3⟩ := hq3
  have hP := hs3.P hP
  have ho3 : tsOk (e - g + w) (lAll (eT t row p g w) (e - g + w)) := tsOk_all hfit
  have hT3 : Txt M3 n (eT t row p g w) (e - g + w) := ⟨(hs3.2 _ _ (by unfold sF; omega)).trans hT2.1, hT2.2.1, fun i hi => ⟨(hs3.2 _ _ (by unfold sF; omega)).trans (hT2.2.2 i hi).1, (hT2.2.2 i hi).2⟩⟩
  have hf3 : ∀ o i, ¬ (o = n + 1 ∨ o = n + 3 ∨ o = n + 4 ∨ o = n + 5) → M3.1 o i = M.1 o i := fun o i ho => (hs3.2 o i (by unfold sF; omega)).trans (hs2.2 o i (by unfold sT; omega))
  refine ev_al dK_edit_116 rfl (by first | assumption | rfl) ?_
  refine ev_getrP dK_edit_117 fK_16 rfl (zq (q := n) hP rfl) ?_
  refine ev_cV dK_edit_120 (c_readTokens (D0 := D0) (iOk_of hP hn hT3 hk3 ho3)) lK_53 (rec_R hn) rfl (Nat.le_of_ble_eq_true rfl) rfl (Nat.le_of_ble_eq_true rfl) (fun q M4 hq4 => ?_)
  obtain ⟨rfl, hM4⟩ := hq4
  have hM4 : M4 = (mE (mR M3 n (eA (eT t row p g w) (lAll (eT t row p g w) (e - g + w)) (tOf M3 n)).2) n (eA (eT t row p g w) (lAll (eT t row p g w) (e - g + w)) (tOf M3 n)).1) := hM4
  have hP : M4.2.1 = zP0 n b := by rw [hM4]; exact hP
  have hs4 : ∀ o i, ¬ (o = n ∨ o = n + 2 ∨ o = n + 6 ∨ o = n + 7 ∨ o = n + 8 ∨ o = n + 9) → M4.1 o i = M3.1 o i := fun o i ho => by rw [hM4, mE_o (by omega), mR_o (by omega)]
  have hf4 : ∀ o i, ¬ (n ≤ o ∧ o ≤ n + 9) → M4.1 o i = M.1 o i := fun o i ho => (hs4 o i (by omega)).trans (hf3 o i (by omega))
  have hV1 : Pkd M4 n (lAll (eT t row p g w) (e - g + w)).length (tV (lAll (eT t row p g w) (e - g + w))) := by
    have h := Pkd_of hk3 ho3
    exact ⟨(hs4 _ _ (by omega)).trans h.1, h.2.1, fun k hk => ⟨(hs4 _ _ (by omega)).trans (h.2.2.1 k hk).1, (h.2.2.1 k hk).2⟩, h.2.2.2⟩
  have hV0 : Pkd M4 b ts.length (tV ts) := by
    have h := Pkd_of hOl.2.1 hOl.2.2.1
    exact ⟨(hf4 _ _ (by omega)).trans h.1, h.2.1, fun k hk => ⟨(hf4 _ _ (by omega)).trans (h.2.2.1 k hk).1, (h.2.2.1 k hk).2⟩, h.2.2.2⟩
  have hw4 : M4.1 0 1 = nI w := (hf4 _ _ (by omega)).trans hw
  refine ev_al dK_edit_123 rfl (by first | assumption | rfl) ?_
  refine ev_il dK_edit_124 rfl (by first | assumption | rfl) ?_
  refine ev_il dK_edit_125 rfl (by first | assumption | rfl) ?_
  refine ev_cV dK_edit_126 (c_traceTokens hP hn hb (by omega) (by omega) hw40 (due_mono hOl.2.2.1) hV1 hV0 hw4) lK_56 rec_K rfl (Nat.le_of_ble_eq_true rfl) rfl (Nat.le_of_ble_eq_true rfl) (fun q M5 hq5 => ?_)
  obtain ⟨rfl, hs5, ho5⟩ := hq5
  have hP := hs5.P hP
  have hf5 : ∀ o i, ¬ o = 24 → ¬ (n ≤ o ∧ o ≤ n + 9) → M5.1 o i = M.1 o i := fun o i h1 h2 => (hs5.2 o i h1).trans (hf4 o i h2)
  have hAd := pA_dn (nT := (lAll (eT t row p g w) (e - g + w)).length) (mk := tMk (eT t row p g w) (lAll (eT t row p g w) (e - g + w))) (tv := tTv (eT t row p g w) (lAll (eT t row p g w) (e - g + w))) (sl := tSl (lAll (eT t row p g w) (e - g + w))) (same := tSm (eT t row p g w) (lAll (eT t row p g w) (e - g + w))) 160 0 (0, false) (tOf M3 n) (Nat.zero_le _) (fun k h1 h2 => absurd h2 (Nat.not_lt_zero k)) ⟨Nat.zero_le _, fun k h2 => absurd h2 (Nat.not_lt_zero k)⟩
  have hc5 : M5.1 (n + 2) 5 = nI (eA (eT t row p g w) (lAll (eT t row p g w) (e - g + w)) (tOf M3 n)).2.1 := by rw [hs5.2 _ _ (by omega), hM4, mE_o (by omega), mR_c]
  have hF5 : ∀ k, M5.1 (n + 6) k = (eA (eT t row p g w) (lAll (eT t row p g w) (e - g + w)) (tOf M3 n)).2.2.1 k := fun k => by rw [hs5.2 _ _ (by omega), hM4, mE_o (by omega), mR_F]
  have hL5 : ∀ k, M5.1 (n + 7) k = (eA (eT t row p g w) (lAll (eT t row p g w) (e - g + w)) (tOf M3 n)).2.2.2.1 k := fun k => by rw [hs5.2 _ _ (by omega), hM4, mE_o (by omega), mR_L]
  have hn160 : (lAll (eT t row p g w) (e - g + w)).length ≤ 160 := Nat.le_trans ho3.2.1 ho3.1
  have hoi : ∀ d x k, k < (eA (eT t row p g w) (lAll (eT t row p g w) (e - g + w)) (tOf M3 n)).2.1 → Pu Lx xs (d + 1) mK_oldItem [.ref 0, .int (nI k)] (mN M5 n x) (eI p g w ts (lAll (eT t row p g w) (e - g + w)) c0 fi0 la0 (eA (eT t row p g w) (lAll (eT t row p g w) (e - g + w)) (tOf M3 n)).2 k) := by
    intro d x k hk
    obtain ⟨a, z, h1, h2, h3, h4⟩ := hAd.2.1 k (Nat.zero_le k) hk
    have h3 : (eA (eT t row p g w) (lAll (eT t row p g w) (e - g + w)) (tOf M3 n)).2.2.1 k = nI a := h3
    have h4 : (eA (eT t row p g w) (lAll (eT t row p g w) (e - g + w)) (tOf M3 n)).2.2.2.1 k = nI z := h4
    have h2 : z < (lAll (eT t row p g w) (e - g + w)).length := h2
    unfold eI
    rw [h3, h4, nI_clamp (by omega), nI_clamp (by omega)]
    refine c_oldItem hP hn hb ⟨h1, by omega⟩ (fun j hj => ⟨(mN_o (by omega) (by omega)).trans (ho5 j (by omega)), fun i hi => ?_⟩) ((mN_o (by omega) (by omega)).trans ((hf5 _ _ (by omega) (by omega)).trans hOl.2.2.2.1)) hOl.2.2.2.2.1 (fun j hj => ?_) (by have := hAd.2.2.1; exact Nat.lt_of_lt_of_le hk this) ((mN_o (by omega) (by omega)).trans ((hF5 k).trans h3)) ((mN_o (by omega) (by omega)).trans ((hL5 k).trans h4))
    · have := oO_lt _ _ hi
      have := hOl.2.2.1.2.1
      have := hOl.2.2.1.1
      omega
    · obtain ⟨g1, g2, g3, g4⟩ := hOl.2.2.2.2.2 j hj
      exact ⟨(mN_o (by omega) (by omega)).trans ((hf5 _ _ (by omega) (by omega)).trans g1), (mN_o (by omega) (by omega)).trans ((hf5 _ _ (by omega) (by omega)).trans g2), g3, g4⟩
  have hoi2 : ∀ k, k < (eA (eT t row p g w) (lAll (eT t row p g w) (e - g + w)) (tOf M3 n)).2.1 → eI p g w ts (lAll (eT t row p g w) (e - g + w)) c0 fi0 la0 (eA (eT t row p g w) (lAll (eT t row p g w) (e - g + w)) (tOf M3 n)).2 k = -1 ∨ ∃ j, j < 160 ∧ eI p g w ts (lAll (eT t row p g w) (e - g + w)) c0 fi0 la0 (eA (eT t row p g w) (lAll (eT t row p g w) (e - g + w)) (tOf M3 n)).2 k = nI j := fun k _ => by
    rcases oItem_in (O := eO p g w ts (lAll (eT t row p g w) (e - g + w))) (fi0 := fi0) (la0 := la0) (c0 := c0) (a := ((eA (eT t row p g w) (lAll (eT t row p g w) (e - g + w)) (tOf M3 n)).2.2.1 k).toNatClampNeg) (z := ((eA (eT t row p g w) (lAll (eT t row p g w) (e - g + w)) (tOf M3 n)).2.2.2.1 k).toNatClampNeg) with h | ⟨j, h1, h2⟩
    · exact Or.inl h
    · exact Or.inr ⟨j, Nat.lt_of_lt_of_le h1 hOl.2.2.2.2.1, h2⟩
  have hgi5 : M5.1 0 6 = nI gi := (hf5 _ _ (by omega) (by omega)).trans hgi
  refine ev_is dK_edit_129 rfl (Nat.le_of_ble_eq_true rfl) ?_
  refine ev_al dK_edit_131 rfl (by first | assumption | rfl) ?_
  refine ev_cV dK_edit_132 (c_numberItems hP hn hb (by omega) hc5 hAd.2.2.1 hgi5 hoi hoi2) lK_60 rec_K rfl (Nat.le_of_ble_eq_true rfl) rfl (Nat.le_of_ble_eq_true rfl) (fun q M6 hq6 => ?_)
  obtain ⟨rfl, hM6⟩ := hq6
  have hP : M6.2.1 = zP0 n b := by rw [hM6]; exact hP
  refine ev_al dK_edit_135 rfl (by first | assumption | rfl) ?_
  refine ev_const (v := nI 0) dK_edit_136 (by decide) ?_
  refine ev_puti dK_edit_137 fK_27 fwK_rowSize rfl (vp_nar_int _) rfl ?_
  have hg7 : ∀ o i, ¬ (o = 0 ∨ o = 24 ∨ o = n + 10) → (zI M6 0 1 (nI 0)).1 o i = M4.1 o i := fun o i ho => by
    rw [zI_o (by omega), hM6, mN_o (by omega) (by omega)]; exact hs5.2 o i (by omega)
  have hnum : M5.1 (b + 10) = M.1 (b + 10) := funext fun i => hf5 _ _ (by omega) (by omega)
  refine ev_al dK_edit_140 rfl (by first | assumption | rfl) ?_
  refine ev_getrP dK_edit_141 fK_16 rfl (zq (q := n) hP rfl) ?_
  refine ev_getrP dK_edit_144 fK_31 (sh_R hn) (zq hP (pt_source hn)) ?_
  refine ev_geti dK_edit_147 fK_63 (sh_S hn) ?_
  rw [(hg7 _ _ (by omega)).trans hV1.1]
  refine ev_il dK_edit_150 rfl (by first | assumption | rfl) ?_
  refine ev_sub dK_edit_152 ?_
  refine ev_ret dK_edit_153 rfl rfl ?_
  refine hR _ (tOf M3 n) (M5.1 (n + 10)) rfl ⟨hP, ?_, ?_, ?_, ?_, ?_, ?_, ?_, ?_, ?_, ?_, ?_⟩ ?_
  · show M6.2.2 = M.2.2
    rw [hM6]
    show M5.2.2 = M.2.2
    rw [hs5.1, hM4]
    show M3.2.2 = M.2.2
    rw [hs3.1, hs2.1]
  · exact ⟨(hg7 _ _ (by omega)).trans ((hs4 _ _ (by omega)).trans hT3.1), hT3.2.1, fun i hi => ⟨(hg7 _ _ (by omega)).trans ((hs4 _ _ (by omega)).trans (hT3.2.2 i hi).1), (hT3.2.2 i hi).2⟩⟩
  · exact ⟨(hg7 _ _ (by omega)).trans ((hs4 _ _ (by omega)).trans hk3.1), fun k q hk => ⟨(hg7 _ _ (by omega)).trans ((hs4 _ _ (by omega)).trans (hk3.2 k q hk).1), (hg7 _ _ (by omega)).trans ((hs4 _ _ (by omega)).trans (hk3.2 k q hk).2)⟩⟩
  · rw [hg7 _ _ (by omega), hM4, mE_n]
  · rw [hg7 _ _ (by omega), hM4, mE_s]
  · rw [hg7 _ _ (by omega), hM4, mE_o (by omega), mR_c]
  · intro k
    refine ⟨?_, ?_, ?_, ?_, ?_⟩
    · rw [hg7 _ _ (by omega), hM4, mE_o (by omega), mR_F]
    · rw [hg7 _ _ (by omega), hM4, mE_o (by omega), mR_L]
    · rw [hg7 _ _ (by omega), hM4, mE_o (by omega), mR_V]
    · rw [hg7 _ _ (by omega), hM4, mE_o (by omega), mR_A]
    · rw [zI_o (by omega), hM6, mN_u, hnum]
  · rw [zI_k (by omega), hM6, mN_5, hnum]
  · rw [zI_k (by omega), hM6, mN_6, hnum]
  · exact zI_s _ _ _ _
  · intro o i ho
    exact (hg7 o i (by omega)).trans (hf4 o i (by omega))
  · exact rfl
theorem zP0_other {n b a i : Nat} (h2 : ¬ (a = 0 ∧ i = 2)) (h3 : ¬ (a = 0 ∧ i = 3)) : zP0 n b a i = zP0 b n a i := by
  unfold zP0
  split <;> first | rfl | (exfalso; omega)
set_option maxRecDepth 100000 in
set_option maxHeartbeats 4000000 in
theorem k_edit {w e p g gi c0 : Nat} {row t fi0 la0 : Nat → Nat} {ts : List (Nat × Nat × Nat)} (hP : M.2.1 = zP0 n b) (hnb : (n = 2 ∧ b = 13) ∨ (n = 13 ∧ b = 2)) (hw : M.1 0 1 = nI w) (hw40 : w ≤ 40) (hrow : ∀ i, i < w → M.1 1 i = nI (row i) ∧ row i < 128) (hOl : Old M n e t ts c0 fi0 la0) (hpg : p + g ≤ e) (hfit : e - g + w ≤ 160) (hgi : M.1 0 6 = nI gi) : Ct Lx xs (D0 + 1152) mK_edit [.ref 0, .int (nI p), .int (nI g)] M (fun q M' => q = some (nI (lAll (eT t row p g w) (e - g + w)).length - nI (oC p g w (tV ts) (tV (lAll (eT t row p g w) (e - g + w))) (lAll (eT t row p g w) (e - g + w)).length ts.length)) ∧ ∃ (T0 : pTr) (N0 : Nat → Int32), T0.1 = 0 ∧ EdR M M' b n (e - g + w) (eT t row p g w) (lAll (eT t row p g w) (e - g + w)) (eA (eT t row p g w) (lAll (eT t row p g w) (e - g + w)) T0) (nGo (eI p g w ts (lAll (eT t row p g w) (e - g + w)) c0 fi0 la0 (eA (eT t row p g w) (lAll (eT t row p g w) (e - g + w)) T0).2) (M.1 (n + 10)) (eA (eT t row p g w) (lAll (eT t row p g w) (e - g + w)) T0).2.1 0 (0, gi, N0))) := by
  have hn : zR n := by unfold zR; omega
  have hb : zR b := by unfold zR; omega
  have he := hOl.1.2.1
  unfold Ct
  refine ev_al dK_edit_0 rfl (by first | assumption | rfl) ?_
  refine ev_getrP dK_edit_1 fK_16 rfl (zq (q := n) hP rfl) ?_
  refine ev_getrP dK_edit_4 fK_31 (sh_R hn) (zq hP (pt_source hn)) ?_
  refine ev_geti dK_edit_7 fK_35 (sh_S hn) ?_
  rw [hOl.1.1]
  refine ev_is dK_edit_10 rfl (Nat.le_of_ble_eq_true rfl) ?_
  refine ev_il dK_edit_11 rfl (by first | assumption | rfl) ?_
  refine ev_if0 (tgt := 31) dK_edit_12 (by decide) (fun h12 => ?_) (fun h12 => ?_)
  · first | omega | (simp (disch := omega) only [zcond, nI_ltI, nI_leI, nI_eq] at h12; omega)
  · try simp (disch := omega) only [zcond, nI_ltI, nI_leI, nI_eq, zb0, Classical.not_not, Bool.not_eq_false, Bool.not_eq_true, Nat.not_lt, Nat.not_le] at h12
    refine ev_il dK_edit_15 rfl (by first | assumption | rfl) ?_
    refine ev_il dK_edit_16 rfl (by first | assumption | rfl) ?_
    refine ev_icmp (tgt := 31) dK_edit_17 (by decide) (fun h17 => ?_) (fun h17 => ?_)
    · first | omega | (simp (disch := omega) only [zcond, nI_ltI, nI_leI, nI_eq] at h17; omega)
    · try simp (disch := omega) only [zcond, nI_ltI, nI_leI, nI_eq, zb0, Classical.not_not, Bool.not_eq_false, Bool.not_eq_true, Nat.not_lt, Nat.not_le] at h17
      refine ev_il dK_edit_20 rfl (by first | assumption | rfl) ?_
      refine ev_if0 (tgt := 31) dK_edit_21 (by decide) (fun h21 => ?_) (fun h21 => ?_)
      · first | omega | (simp (disch := omega) only [zcond, nI_ltI, nI_leI, nI_eq] at h21; omega)
      · try simp (disch := omega) only [zcond, nI_ltI, nI_leI, nI_eq, zb0, Classical.not_not, Bool.not_eq_false, Bool.not_eq_true, Nat.not_lt, Nat.not_le] at h21
        refine ev_il dK_edit_24 rfl (by first | assumption | rfl) ?_
        refine ev_il dK_edit_25 rfl (by first | assumption | rfl) ?_
        refine ev_il dK_edit_26 rfl (by first | assumption | rfl) ?_
        first | with_reducible refine ev_subN dK_edit_27 (by omega) ?_ | refine ev_sub dK_edit_27 ?_
        refine ev_icmp (tgt := 39) dK_edit_28 (by decide) (fun h28 => ?_) (fun h28 => ?_)
        · try simp (disch := omega) only [zcond, nI_ltI, nI_leI, nI_eq, zb0, Classical.not_not, Bool.not_eq_false, Bool.not_eq_true, Nat.not_lt, Nat.not_le] at h28
          refine ev_il dK_edit_39 rfl (by first | assumption | rfl) ?_
          refine ev_il dK_edit_40 rfl (by first | assumption | rfl) ?_
          first | with_reducible refine ev_subN dK_edit_41 (by omega) ?_ | refine ev_sub dK_edit_41 ?_
          refine ev_al dK_edit_42 rfl (by first | assumption | rfl) ?_
          refine ev_geti dK_edit_43 fK_27 rfl ?_
          rw [hw]
          first | with_reducible refine ev_addN dK_edit_46 ?_ | refine ev_add dK_edit_46 ?_
          refine ev_const (v := nI 160) dK_edit_47 (by decide) ?_
          refine ev_icmp (tgt := 61) dK_edit_50 (by decide) (fun h50 => ?_) (fun h50 => ?_)
          · try simp (disch := omega) only [zcond, nI_ltI, nI_leI, nI_eq, zb0, Classical.not_not, Bool.not_eq_false, Bool.not_eq_true, Nat.not_lt, Nat.not_le] at h50
            refine ev_al dK_edit_61 rfl (by first | assumption | rfl) ?_
            refine ev_getrP dK_edit_62 fK_16 rfl (zq (q := n) hP rfl) ?_
            refine ev_as dK_edit_65 rfl (Nat.le_of_ble_eq_true rfl) ?_
            refine ev_al dK_edit_67 rfl (by first | assumption | rfl) ?_
            refine ev_al dK_edit_68 rfl (by first | assumption | rfl) ?_
            refine ev_getrP dK_edit_69 fK_20 rfl (zq (q := b) hP rfl) ?_
            refine ev_putr dK_edit_72 fK_16 fwK_now rfl ?_
            refine ev_al dK_edit_75 rfl (by first | assumption | rfl) ?_
            refine ev_al dK_edit_76 rfl (by first | assumption | rfl) ?_
            refine ev_putr dK_edit_78 fK_20 fwK_before rfl ?_
            refine l_edit (M := zP (zP M 0 2 b) 0 3 n) (n := b) (b := n) ?_ (by omega) hw hw40 hrow hOl hpg hfit hgi ?_ _ ?_ ?_ ?_ ?_
            · funext a i
              show (if a = 0 ∧ i = 3 then n else if a = 0 ∧ i = 2 then b else M.2.1 a i) = zP0 b n a i
              rw [hP]
              by_cases h3 : a = 0 ∧ i = 3
              · obtain ⟨rfl, rfl⟩ := h3; rfl
              · rw [if_neg h3]
                by_cases h2 : a = 0 ∧ i = 2
                · obtain ⟨rfl, rfl⟩ := h2; rfl
                · rw [if_neg h2]
                  exact zP0_other h2 h3
            · intro M' T0 N0 h0 hE h1
              exact ⟨rfl, T0, N0, h0, hE⟩
            all_goals rfl
          · first | omega | (simp (disch := omega) only [zcond, nI_ltI, nI_leI, nI_eq] at h50; omega)
        · first | omega | (simp (disch := omega) only [zcond, nI_ltI, nI_leI, nI_eq] at h28; omega)
set_option maxRecDepth 100000 in
set_option maxHeartbeats 4000000 in
theorem k_edit_iob {e : Nat} {x y : Int32} (hP : M.2.1 = zP0 n b) (hn : zR n) (he : M.1 (n + 1) 1 = nI e) (h : x < nI 0 ∨ nI e < x ∨ y < nI 0 ∨ nI e - x < y) : Ev Lx xs D0 mK_edit 0 (zarg [.ref 0, .int x, .int y]) [] M (fun pc' _ st' M' => pc' = 31 ∧ st' = [] ∧ M' = M) := by
  refine ev_al dK_edit_0 rfl (by first | assumption | rfl) ?_
  refine ev_getrP dK_edit_1 fK_16 rfl (zq (q := n) hP rfl) ?_
  refine ev_getrP dK_edit_4 fK_31 (sh_R hn) (zq hP (pt_source hn)) ?_
  refine ev_geti dK_edit_7 fK_35 (sh_S hn) ?_
  rw [he]
  refine ev_is dK_edit_10 rfl (Nat.le_of_ble_eq_true rfl) ?_
  refine ev_il dK_edit_11 rfl (by first | assumption | rfl) ?_
  refine ev_if0 (tgt := 31) dK_edit_12 (by decide) (fun h12 => ?_) (fun h12 => ?_)
  · exact ev_done ⟨rfl, rfl, rfl⟩
  · refine ev_il dK_edit_15 rfl (by first | assumption | rfl) ?_
    refine ev_il dK_edit_16 rfl (by first | assumption | rfl) ?_
    refine ev_icmp (tgt := 31) dK_edit_17 (by decide) (fun h17 => ?_) (fun h17 => ?_)
    · exact ev_done ⟨rfl, rfl, rfl⟩
    · refine ev_il dK_edit_20 rfl (by first | assumption | rfl) ?_
      refine ev_if0 (tgt := 31) dK_edit_21 (by decide) (fun h21 => ?_) (fun h21 => ?_)
      · exact ev_done ⟨rfl, rfl, rfl⟩
      · refine ev_il dK_edit_24 rfl (by first | assumption | rfl) ?_
        refine ev_il dK_edit_25 rfl (by first | assumption | rfl) ?_
        refine ev_il dK_edit_26 rfl (by first | assumption | rfl) ?_
        refine ev_sub dK_edit_27 ?_
        refine ev_icmp (tgt := 39) dK_edit_28 (by decide) (fun h28 => ?_) (fun h28 => ?_)
        · exact (h.elim h12 (fun h => h.elim h17 (fun h => h.elim h21 (fun h => Int32.not_lt.mpr h28 h)))).elim
        · exact ev_done ⟨rfl, rfl, rfl⟩
set_option maxRecDepth 100000 in
set_option maxHeartbeats 4000000 in
theorem k_edit_ise {e p g w : Nat} (hP : M.2.1 = zP0 n b) (hn : zR n) (he : M.1 (n + 1) 1 = nI e) (he2 : e ≤ 160) (hw : M.1 0 1 = nI w) (hw40 : w ≤ 40) (hpg : p + g ≤ e) (hbig : 160 < e - g + w) : Ev Lx xs D0 mK_edit 0 (zarg [.ref 0, .int (nI p), .int (nI g)]) [] M (fun pc' _ st' M' => pc' = 53 ∧ st' = [] ∧ M' = M) := by
  refine ev_al dK_edit_0 rfl (by first | assumption | rfl) ?_
  refine ev_getrP dK_edit_1 fK_16 rfl (zq (q := n) hP rfl) ?_
  refine ev_getrP dK_edit_4 fK_31 (sh_R hn) (zq hP (pt_source hn)) ?_
  refine ev_geti dK_edit_7 fK_35 (sh_S hn) ?_
  rw [he]
  refine ev_is dK_edit_10 rfl (Nat.le_of_ble_eq_true rfl) ?_
  refine ev_il dK_edit_11 rfl (by first | assumption | rfl) ?_
  refine ev_if0 (tgt := 31) dK_edit_12 (by decide) (fun h12 => ?_) (fun h12 => ?_)
  · first | omega | (simp (disch := omega) only [zcond, nI_ltI, nI_leI, nI_eq] at h12; omega)
  · try simp (disch := omega) only [zcond, nI_ltI, nI_leI, nI_eq, zb0, Classical.not_not, Bool.not_eq_false, Bool.not_eq_true, Nat.not_lt, Nat.not_le] at h12
    refine ev_il dK_edit_15 rfl (by first | assumption | rfl) ?_
    refine ev_il dK_edit_16 rfl (by first | assumption | rfl) ?_
    refine ev_icmp (tgt := 31) dK_edit_17 (by decide) (fun h17 => ?_) (fun h17 => ?_)
    · first | omega | (simp (disch := omega) only [zcond, nI_ltI, nI_leI, nI_eq] at h17; omega)
    · try simp (disch := omega) only [zcond, nI_ltI, nI_leI, nI_eq, zb0, Classical.not_not, Bool.not_eq_false, Bool.not_eq_true, Nat.not_lt, Nat.not_le] at h17
      refine ev_il dK_edit_20 rfl (by first | assumption | rfl) ?_
      refine ev_if0 (tgt := 31) dK_edit_21 (by decide) (fun h21 => ?_) (fun h21 => ?_)
      · first | omega | (simp (disch := omega) only [zcond, nI_ltI, nI_leI, nI_eq] at h21; omega)
      · try simp (disch := omega) only [zcond, nI_ltI, nI_leI, nI_eq, zb0, Classical.not_not, Bool.not_eq_false, Bool.not_eq_true, Nat.not_lt, Nat.not_le] at h21
        refine ev_il dK_edit_24 rfl (by first | assumption | rfl) ?_
        refine ev_il dK_edit_25 rfl (by first | assumption | rfl) ?_
        refine ev_il dK_edit_26 rfl (by first | assumption | rfl) ?_
        first | with_reducible refine ev_subN dK_edit_27 (by omega) ?_ | refine ev_sub dK_edit_27 ?_
        refine ev_icmp (tgt := 39) dK_edit_28 (by decide) (fun h28 => ?_) (fun h28 => ?_)
        · try simp (disch := omega) only [zcond, nI_ltI, nI_leI, nI_eq, zb0, Classical.not_not, Bool.not_eq_false, Bool.not_eq_true, Nat.not_lt, Nat.not_le] at h28
          refine ev_il dK_edit_39 rfl (by first | assumption | rfl) ?_
          refine ev_il dK_edit_40 rfl (by first | assumption | rfl) ?_
          first | with_reducible refine ev_subN dK_edit_41 (by omega) ?_ | refine ev_sub dK_edit_41 ?_
          refine ev_al dK_edit_42 rfl (by first | assumption | rfl) ?_
          refine ev_geti dK_edit_43 fK_27 rfl ?_
          rw [hw]
          first | with_reducible refine ev_addN dK_edit_46 ?_ | refine ev_add dK_edit_46 ?_
          refine ev_const (v := nI 160) dK_edit_47 (by decide) ?_
          refine ev_icmp (tgt := 61) dK_edit_50 (by decide) (fun h50 => ?_) (fun h50 => ?_)
          · first | omega | (simp (disch := omega) only [zcond, nI_ltI, nI_leI, nI_eq] at h50; omega)
          · try simp (disch := omega) only [zcond, nI_ltI, nI_leI, nI_eq, zb0, Classical.not_not, Bool.not_eq_false, Bool.not_eq_true, Nat.not_lt, Nat.not_le] at h50
            exact ev_done ⟨rfl, rfl, rfl⟩
        · first | omega | (simp (disch := omega) only [zcond, nI_ltI, nI_leI, nI_eq] at h28; omega)
end
