/- both sides hold the same: K bounds the numbers given -/
def zJn (M : zM) (n b K : Nat) : Prop := ((n = 2 ∧ b = 13) ∨ (n = 13 ∧ b = 2)) ∧ M.2.1 = zP0 n b ∧ ∃ (e : Nat) (t : Nat → Nat) (ts : List (Nat × Nat × Nat)) (w : Nat) (row : Nat → Nat) (c gi cur : Nat) (s : pE) (fi la : Nat → Nat),
  Txt M n t e ∧ Toks M n t ts ∧ tsOk e ts ∧ TxM M t e ∧ TkM M ts ∧
  (M.1 0 1 = nI w ∧ M.1 25 3 = nI w ∧ w ≤ 40 ∧ ∀ i, i < w → M.1 1 i = nI (row i) ∧ M.1 27 i = nI (row i) ∧ row i < 128) ∧
  (M.1 (n + 2) 5 = nI c ∧ M.1 25 14 = nI c ∧ c ≤ 160) ∧
  (∀ k, k < c → (M.1 (n + 6) k = nI (fi k) ∧ M.1 35 k = nI (fi k) ∧ M.1 (n + 7) k = nI (la k) ∧ M.1 36 k = nI (la k)) ∧ (fi k ≤ la k ∧ la k < ts.length) ∧ M.1 (n + 8) k = M.1 37 k ∧ M.1 (n + 9) k = M.1 41 k ∧ M.1 (n + 10) k = M.1 40 k) ∧
  (M.1 n 2 = nI s.1 ∧ M.1 n 3 = nI s.2.toNat ∧ s.1 < 2 ^ 31 ∧ M.1 25 29 = (if s.2 = true then (if s.1 < ts.length then nI (tk ts s.1).1 else nI e) else -1)) ∧
  M.1 0 5 = M.1 25 28 ∧ (M.1 0 6 = nI gi ∧ M.1 25 27 = nI gi ∧ gi ≤ 160 * K) ∧ nuOk (M.1 40) c gi ∧ M.1 25 35 = nI cur ∧ cur < 160
def zInv (M : zM) (K : Nat) : Prop := ∃ n b, zJn M n b K
theorem zJn.cg {M M' : zM} {n b K : Nat} (h : zJn M n b K) (h1 : M'.2.1 = M.2.1) (h2 : ∀ a i, ¬ (a = 25 ∧ i = 0) → M'.1 a i = M.1 a i) : zJn M' n b K := by
  obtain ⟨hnb, hP, e, t, ts, w, row, c, gi, cur, s, fi, la, ⟨T1, T2, T3⟩, ⟨K1, K2⟩, ho, ⟨m1, m2, m3⟩, ⟨k1, k2⟩, ⟨w1, w2, w3, w4⟩, ⟨c1, c2, c3⟩, hI, ⟨s1, s2, s3, s4⟩, hk, ⟨g1, g2, g3⟩, hnu, u1, u2⟩ := h
  have h40 : M'.1 40 = M.1 40 := funext fun i => h2 40 i (by omega)
  refine ⟨hnb, h1.trans hP, e, t, ts, w, row, c, gi, cur, s, fi, la, ⟨(h2 _ _ (by omega)).trans T1, T2, fun i hi => ⟨(h2 _ _ (by omega)).trans (T3 i hi).1, (T3 i hi).2⟩⟩, ⟨(h2 _ _ (by omega)).trans K1, fun k q hq => ⟨(h2 _ _ (by omega)).trans (K2 k q hq).1, (h2 _ _ (by omega)).trans (K2 k q hq).2⟩⟩, ho, ⟨(h2 _ _ (by omega)).trans m1, m2, fun i hi => ⟨(h2 _ _ (by omega)).trans (m3 i hi).1, (m3 i hi).2⟩⟩, ⟨(h2 _ _ (by omega)).trans k1, fun k q hq => ⟨(h2 _ _ (by omega)).trans (k2 k q hq).1, (h2 _ _ (by omega)).trans (k2 k q hq).2.1, (h2 _ _ (by omega)).trans (k2 k q hq).2.2⟩⟩, ⟨(h2 _ _ (by omega)).trans w1, (h2 _ _ (by omega)).trans w2, w3, fun i hi => ⟨(h2 _ _ (by omega)).trans (w4 i hi).1, (h2 _ _ (by omega)).trans (w4 i hi).2.1, (w4 i hi).2.2⟩⟩, ⟨(h2 _ _ (by omega)).trans c1, (h2 _ _ (by omega)).trans c2, c3⟩, fun k hk => ?_, ⟨(h2 _ _ (by omega)).trans s1, (h2 _ _ (by omega)).trans s2, s3, (h2 _ _ (by omega)).trans s4⟩, (h2 _ _ (by omega)).trans (hk.trans (h2 _ _ (by omega)).symm), ⟨(h2 _ _ (by omega)).trans g1, (h2 _ _ (by omega)).trans g2, g3⟩, by rw [h40]; exact hnu, (h2 _ _ (by omega)).trans u1, u2⟩
  obtain ⟨⟨i1, i2, i3, i4⟩, i5, i6, i7, i8⟩ := hI k hk
  exact ⟨⟨(h2 _ _ (by omega)).trans i1, (h2 _ _ (by omega)).trans i2, (h2 _ _ (by omega)).trans i3, (h2 _ _ (by omega)).trans i4⟩, i5, (h2 _ _ (by omega)).trans (i6.trans (h2 _ _ (by omega)).symm), (h2 _ _ (by omega)).trans (i7.trans (h2 _ _ (by omega)).symm), (h2 _ _ (by omega)).trans (i8.trans (h2 _ _ (by omega)).symm)⟩
theorem zJn.th {M : zM} {n b K : Nat} {x : Int32} (h : zJn M n b K) : zJn (zI M 25 0 x) n b K := h.cg rfl (fun a i hh => z0 hh)
theorem zJn.lo {M : zM} {n b K : Nat} {x : Int64} (h : zJn M n b K) : zJn (zJ M x) n b K := h.cg rfl (fun _ _ _ => rfl)
theorem zJn.up {M : zM} {n b K K' : Nat} (h : zJn M n b K) (hK : K ≤ K') : zJn M n b K' := by
  obtain ⟨hnb, hP, e, t, ts, w, row, c, gi, cur, s, fi, la, h1, h2, h3, h4, h5, h6, h7, h8, h9, h10, ⟨g1, g2, g3⟩, h12⟩ := h
  exact ⟨hnb, hP, e, t, ts, w, row, c, gi, cur, s, fi, la, h1, h2, h3, h4, h5, h6, h7, h8, h9, h10, ⟨g1, g2, by omega⟩, h12⟩
theorem zInv.up {M : zM} {K K' : Nat} (h : zInv M K) (hK : K ≤ K') : zInv M K' := by
  obtain ⟨n, b, h⟩ := h
  exact ⟨n, b, h.up hK⟩
theorem zInv.P {M : zM} {K : Nat} (h : zInv M K) : ∃ n b, M.2.1 = zP0 n b := by
  obtain ⟨n, b, h⟩ := h
  exact ⟨n, b, h.2.1⟩
/-- a contract, weakened -/
def Cx (Lx : Nat) (xs : Nat → Int32) (d : Nat) (y : zY) (As : List Value) (M : zM) (R : Option Int32 → zM → Prop) : Prop := ∃ R0, Ct Lx xs d y As M R0 ∧ ∀ o M', R0 o M' → R o M'
/-- a call that can't throw: both answer alike -/
def Tv (Lx : Nat) (xs : Nat → Int32) (d : Nat) (yK yM : zY) (As : List Value) (M : zM) (K : Nat) : Prop := Cx Lx xs d yK (.ref 0 :: As) M (fun o M1 => ∃ v, o = some v ∧ Cx Lx xs d yM (.ref 25 :: As) M1 (fun o' M' => o' = some v ∧ zInv M' K))
/-- a call that may throw: it doesn't -/
def Tn (Lx : Nat) (xs : Nat → Int32) (d d' : Nat) (yK yM : zY) (As : List Value) (M : zM) (K : Nat) : Prop := Cx Lx xs d yK (.ref 0 :: As) M (fun o M1 => ∃ v, o = some v ∧ ∀ z, Cx Lx xs d' yM (.ref 25 :: As) (zJ M1 z) (fun o' M' => o' = some v ∧ M'.2.2 = z ∧ M'.1 25 0 = nI 0 ∧ zInv M' K))
/-- it does, from P; the reference says c -/
def Tx (Lx : Nat) (xs : Nat → Int32) (d d' : Nat) (yK yM : zY) (As : List Value) (M : zM) (K P c : Nat) : Prop := Ev Lx xs d yK 0 (zarg (.ref 0 :: As)) [] M (fun pc' _ st' M' => pc' = P ∧ st' = [] ∧ M' = M) ∧ Cx Lx xs d' yM (.ref 25 :: As) M (fun o' M' => (∃ v, o' = some v) ∧ M'.1 25 0 = nI c ∧ zInv M' K)
section
variable {Lx : Nat} {xs : Nat → Int32} {d d' : Nat} {M : zM} {n b K : Nat} {yK yM : zY} {As : List Value}
theorem tv_pu {v v' : Int32} (h : zJn M n b K) (hk : Pu Lx xs d yK (.ref 0 :: As) M v) (hr : Ct Lx xs d yM (.ref 25 :: As) M (fun q M' => q = some v' ∧ M' = zI M 25 0 (nI 0))) (hv : v = v') : Tv Lx xs d yK yM As M K := by
  refine ⟨_, hk, fun o M1 ho => ?_⟩
  obtain ⟨rfl, rfl⟩ := ho
  refine ⟨v, rfl, _, hr, fun o' M' ho' => ?_⟩
  obtain ⟨rfl, rfl⟩ := ho'
  exact ⟨by rw [hv], n, b, h.th⟩
theorem tn_pu {v v' : Int32} (h : zJn M n b K) (hk : Pu Lx xs d yK (.ref 0 :: As) M v) (hr : ∀ z, Ct Lx xs d' yM (.ref 25 :: As) (zJ M z) (fun q M' => q = some v' ∧ M' = zI (zJ M z) 25 0 (nI 0))) (hv : v = v') : Tn Lx xs d d' yK yM As M K := by
  refine ⟨_, hk, fun o M1 ho => ?_⟩
  obtain ⟨rfl, rfl⟩ := ho
  refine ⟨v, rfl, fun z => ⟨_, hr z, fun o' M' ho' => ?_⟩⟩
  obtain ⟨rfl, rfl⟩ := ho'
  exact ⟨by rw [hv], rfl, by rw [zI_at, if_pos ⟨rfl, rfl⟩], n, b, h.lo.th⟩
theorem tx_pu {P c : Nat} (h : zJn M n b K) (hk : Ev Lx xs d yK 0 (zarg (.ref 0 :: As)) [] M (fun pc' _ st' M' => pc' = P ∧ st' = [] ∧ M' = M)) (hr : Ct Lx xs d' yM (.ref 25 :: As) M (fun q M' => q = some (nI 0) ∧ M' = zI M 25 0 (nI c))) : Tx Lx xs d d' yK yM As M K P c := by
  refine ⟨hk, _, hr, fun o' M' ho' => ?_⟩
  obtain ⟨rfl, rfl⟩ := ho'
  exact ⟨⟨_, rfl⟩, by rw [zI_at, if_pos ⟨rfl, rfl⟩], n, b, h.th⟩
theorem ix {x : Int32} {c : Nat} (hc : c ≤ 160) : (x < nI 0 ∨ nI c ≤ x) ∨ ∃ k, k < c ∧ x = nI k := by
  rcases pk_ix x (n := c) (by omega) with h | h | h
  · exact Or.inl (Or.inl h)
  · exact Or.inl (Or.inr h)
  · exact Or.inr h
theorem iv_length (h : zInv M K) : Tv Lx xs d mK_length mM_length [] M K := by
  obtain ⟨n, b, h⟩ := h
  have h0 := h
  obtain ⟨hnb, hP, e, t, ts, w, row, c, gi, cur, s, fi, la, hT, hk, ho, hT', hk', hw, hc, hI, hs, hkp, hg, hnu, hcur⟩ := h
  have hn : zR n := by unfold zR; omega
  exact tv_pu h0 (k_length hP hn) (r_length hP) (hT.1.trans hT'.1.symm)
theorem iv_tokens (h : zInv M K) : Tv Lx xs d mK_tokens mM_tokens [] M K := by
  obtain ⟨n, b, h⟩ := h
  have h0 := h
  obtain ⟨hnb, hP, e, t, ts, w, row, c, gi, cur, s, fi, la, hT, hk, ho, hT', hk', hw, hc, hI, hs, hkp, hg, hnu, hcur⟩ := h
  have hn : zR n := by unfold zR; omega
  exact tv_pu h0 (k_tokens hP hn) (r_tokens hP) (hk.1.trans hk'.1.symm)
theorem iv_items (h : zInv M K) : Tv Lx xs d mK_items mM_items [] M K := by
  obtain ⟨n, b, h⟩ := h
  have h0 := h
  obtain ⟨hnb, hP, e, t, ts, w, row, c, gi, cur, s, fi, la, hT, hk, ho, hT', hk', hw, hc, hI, hs, hkp, hg, hnu, hcur⟩ := h
  have hn : zR n := by unfold zR; omega
  exact tv_pu h0 (k_items hP hn) (r_items hP) (hc.1.trans hc.2.1.symm)
theorem iv_kept (h : zInv M K) : Tv Lx xs d mK_kept mM_kept [] M K := by
  obtain ⟨n, b, h⟩ := h
  have h0 := h
  obtain ⟨hnb, hP, e, t, ts, w, row, c, gi, cur, s, fi, la, hT, hk, ho, hT', hk', hw, hc, hI, hs, hkp, hg, hnu, hcur⟩ := h
  have hn : zR n := by unfold zR; omega
  exact tv_pu h0 (k_kept hP hn) (r_kept hP) hkp
theorem iv_fault (h : zInv M K) : Tv Lx xs (d + 2) mK_fault mM_fault [] M K := by
  obtain ⟨n, b, h⟩ := h
  have h0 := h
  obtain ⟨hnb, hP, e, t, ts, w, row, c, gi, cur, s, fi, la, hT, hk, ho, hT', hk', hw, hc, hI, hs, hkp, hg, hnu, hcur⟩ := h
  have hn : zR n := by unfold zR; omega
  refine tv_pu h0 (k_fault hP hn hs.1 hs.2.1 hs.2.2.1 (Pkd_of hk ho) hT.1) (r_fault hP) ?_
  rw [hs.2.2.2]
  by_cases h1 : s.2 = true
  · rw [if_pos h1, if_pos h1]
    by_cases h2 : s.1 < ts.length
    · rw [if_pos h2, if_pos h2, (tV_in ho h2).2.1]
    · rw [if_neg h2, if_neg h2]
  · rw [if_neg h1, if_neg h1]
theorem iv_at {x : Int32} (h : zInv M K) : Tv Lx xs d mK_at mM_at [.int x] M K := by
  obtain ⟨n, b, h⟩ := h
  have h0 := h
  obtain ⟨hnb, hP, e, t, ts, w, row, c, gi, cur, s, fi, la, hT, hk, ho, hT', hk', hw, hc, hI, hs, hkp, hg, hnu, hcur⟩ := h
  have hn : zR n := by unfold zR; omega
  rcases ix (x := x) hT.2.1 with hx | ⟨k, hk, rfl⟩
  · exact tv_pu h0 (k_at_out hP hn hT.1 hx) (r_at_out hP hT'.1 hx) rfl
  · have h1 := hT.2.2 k hk
    have h2 := hT'.2.2 k hk
    exact tv_pu h0 (k_at_in hP hn hT.1 hT.2.1 hk h1.1 (by omega)) (r_at_in hP hT'.1 hT'.2.1 hk h2.1 (by omega)) rfl
theorem iv_number {x : Int32} (h : zInv M K) : Tv Lx xs (d + 1) mK_number mM_number [.int x] M K := by
  obtain ⟨n, b, h⟩ := h
  have h0 := h
  obtain ⟨hnb, hP, e, t, ts, w, row, c, gi, cur, s, fi, la, hT, hk, ho, hT', hk', hw, hc, hI, hs, hkp, hg, hnu, hcur⟩ := h
  have hn : zR n := by unfold zR; omega
  rcases ix (x := x) hc.2.2 with hx | ⟨k, hk, rfl⟩
  · exact tv_pu h0 (k_number_out hP hn hc.1 hx) (r_number_out hP hc.2.1 hx) rfl
  · exact tv_pu h0 (k_number_in hP hn hc.1 hc.2.2 hk) (r_number_in hP hc.2.1 hc.2.2 hk) (hI k hk).2.2.2.2
theorem iv_level {x : Int32} (h : zInv M K) : Tv Lx xs (d + 1) mK_level mM_level [.int x] M K := by
  obtain ⟨n, b, h⟩ := h
  have h0 := h
  obtain ⟨hnb, hP, e, t, ts, w, row, c, gi, cur, s, fi, la, hT, hk, ho, hT', hk', hw, hc, hI, hs, hkp, hg, hnu, hcur⟩ := h
  have hn : zR n := by unfold zR; omega
  rcases ix (x := x) hc.2.2 with hx | ⟨k, hk, rfl⟩
  · exact tv_pu h0 (k_level_out hP hn hc.1 hx) (r_level_out hP hc.2.1 hx) rfl
  · exact tv_pu h0 (k_level_in hP hn hc.1 hc.2.2 hk) (r_level_in hP hc.2.1 hc.2.2 hk) (hI k hk).2.2.1
theorem iv_which {x : Int32} (h : zInv M K) : Tv Lx xs (d + 1) mK_which mM_which [.int x] M K := by
  obtain ⟨n, b, h⟩ := h
  have h0 := h
  obtain ⟨hnb, hP, e, t, ts, w, row, c, gi, cur, s, fi, la, hT, hk, ho, hT', hk', hw, hc, hI, hs, hkp, hg, hnu, hcur⟩ := h
  have hn : zR n := by unfold zR; omega
  exact tv_pu h0 (k_which hP hn hc.1 hc.2.2) (r_which hP hc.2.1 hc.2.2) (wh_eq (fun k hk => (hI k hk).2.2.2.2) (fun i j hij hj => by rw [(hI i (by omega)).2.2.2.2, (hI j hj).2.2.2.2]; exact hnu.2 i j hij hj))
theorem iv_token {x : Int32} (h : zInv M K) : Tn Lx xs d d' mK_token mM_token [.int x] M K ∨ Tx Lx xs d d' mK_token mM_token [.int x] M K 18 1 := by
  obtain ⟨n, b, h⟩ := h
  have h0 := h
  obtain ⟨hnb, hP, e, t, ts, w, row, c, gi, cur, s, fi, la, hT, hk, ho, hT', hk', hw, hc, hI, hs, hkp, hg, hnu, hcur⟩ := h
  have hn : zR n := by unfold zR; omega
  have h160 : ts.length ≤ 160 := Nat.le_trans ho.2.1 ho.1
  rcases ix (x := x) h160 with hx | ⟨k, hkk, rfl⟩
  · exact Or.inr (tx_pu h0 (k_token_out hP hn hk.1 hx) (r_token_out hP hk'.1 hx))
  · have h1 := hk.2 k _ (tk_at hkk)
    have h2 := hk'.2 k _ (tk_at hkk)
    exact Or.inl (tn_pu h0 (k_token_in hP hn hk.1 h160 hkk) (fun z => r_token_in (M := zJ M z) hP hk'.1 h160 hkk h2.1 h2.2.1 h2.2.2) h1.1)
theorem iv_value {x : Int32} (h : zInv M K) : Tn Lx xs (d + 1) (d' + 1) mK_value mM_value [.int x] M K ∨ Tx Lx xs (d + 1) (d' + 1) mK_value mM_value [.int x] M K 14 1 := by
  obtain ⟨n, b, h⟩ := h
  have h0 := h
  obtain ⟨hnb, hP, e, t, ts, w, row, c, gi, cur, s, fi, la, hT, hk, ho, hT', hk', hw, hc, hI, hs, hkp, hg, hnu, hcur⟩ := h
  have hn : zR n := by unfold zR; omega
  rcases ix (x := x) hc.2.2 with hx | ⟨k, hkk, rfl⟩
  · exact Or.inr (tx_pu h0 (k_value_out hP hn hc.1 hx) (r_value_out hP hc.2.1 hx))
  · exact Or.inl (tn_pu h0 (k_value_in hP hn hc.1 hc.2.2 hkk) (fun z => r_value_in (M := zJ M z) hP hc.2.1 hc.2.2 hkk) (hI k hkk).2.2.2.1)
theorem iv_begin {x : Int32} (h : zInv M K) : Tn Lx xs (d + 1) (d' + 1) mK_begin mM_begin [.int x] M K ∨ Tx Lx xs (d + 1) (d' + 1) mK_begin mM_begin [.int x] M K 14 1 := by
  obtain ⟨n, b, h⟩ := h
  have h0 := h
  obtain ⟨hnb, hP, e, t, ts, w, row, c, gi, cur, s, fi, la, hT, hk, ho, hT', hk', hw, hc, hI, hs, hkp, hg, hnu, hcur⟩ := h
  have hn : zR n := by unfold zR; omega
  have h160 : ts.length ≤ 160 := Nat.le_trans ho.2.1 ho.1
  rcases ix (x := x) hc.2.2 with hx | ⟨k, hkk, rfl⟩
  · exact Or.inr (tx_pu h0 (k_begin_out hP hn hc.1 hx) (r_begin_out hP hc.2.1 hx))
  · obtain ⟨⟨i1, i2, i3, i4⟩, ⟨i5, i6⟩, -⟩ := hI k hkk
    have hf : fi k < ts.length := by omega
    have h1 := hk.2 _ _ (tk_at hf)
    have h2 := hk'.2 _ _ (tk_at hf)
    have hv := tV_in ho hf
    exact Or.inl (tn_pu h0 (k_begin_in (v := tV ts (fi k)) hP hn hc.1 hc.2.2 hkk i1 (by omega) h1.1 (by omega)) (fun z => r_begin_in (M := zJ M z) hP hc.2.1 hc.2.2 hkk i2 (by omega) h2.1) (by rw [hv.2.1]))
theorem iv_end {x : Int32} (h : zInv M K) : Tn Lx xs (d + 2) (d' + 1) mK_end mM_end [.int x] M K ∨ Tx Lx xs (d + 2) (d' + 1) mK_end mM_end [.int x] M K 14 1 := by
  obtain ⟨n, b, h⟩ := h
  have h0 := h
  obtain ⟨hnb, hP, e, t, ts, w, row, c, gi, cur, s, fi, la, hT, hk, ho, hT', hk', hw, hc, hI, hs, hkp, hg, hnu, hcur⟩ := h
  have hn : zR n := by unfold zR; omega
  have h160 : ts.length ≤ 160 := Nat.le_trans ho.2.1 ho.1
  rcases ix (x := x) hc.2.2 with hx | ⟨k, hkk, rfl⟩
  · exact Or.inr (tx_pu h0 (k_end_out hP hn hc.1 hx) (r_end_out hP hc.2.1 hx))
  · obtain ⟨⟨i1, i2, i3, i4⟩, ⟨i5, i6⟩, -⟩ := hI k hkk
    have h1 := hk.2 _ _ (tk_at i6)
    have h2 := hk'.2 _ _ (tk_at i6)
    have hv := tV_in ho i6
    exact Or.inl (tn_pu h0 (k_end_in (v := tV ts (la k)) hP hn hc.1 hc.2.2 hkk i3 (by omega) h1.1 (by omega)) (fun z => r_end_in (M := zJ M z) hP hc.2.1 hc.2.2 hkk i4 (by omega) h2.1 h2.2.1) (by rw [hv.2.1, hv.2.2.1]))
theorem iv_wipe (h : zInv M K) : Tv Lx xs d mK_wipe mM_wipe [] M K := by
  obtain ⟨n, b, h⟩ := h
  obtain ⟨hnb, hP, e, t, ts, w, row, c, gi, cur, s, fi, la, ⟨T1, T2, T3⟩, ⟨K1, K2⟩, ho, ⟨m1, m2, m3⟩, ⟨k1, k2⟩, ⟨w1, w2, w3, w4⟩, ⟨c1, c2, c3⟩, hI, ⟨s1, s2, s3, s4⟩, hk, ⟨g1, g2, g3⟩, hnu, u1, u2⟩ := h
  have hn : zR n := by unfold zR; omega
  refine ⟨_, k_wipe hP hn, fun o M1 ho1 => ?_⟩
  obtain ⟨rfl, rfl⟩ := ho1
  refine ⟨_, rfl, _, r_wipe (M := zI M 0 1 (nI 0)) hP, fun o' M' ho' => ?_⟩
  obtain ⟨rfl, rfl⟩ := ho'
  have hf : ∀ a i, ¬ (a = 0 ∧ i = 1) → ¬ (a = 25 ∧ i = 0) → ¬ (a = 25 ∧ i = 3) → (zI (zI (zI M 0 1 (nI 0)) 25 0 (nI 0)) 25 3 (nI 0)).1 a i = M.1 a i := fun a i x1 x2 x3 => by rw [zI_at, if_neg x3, zI_at, if_neg x2, zI_at, if_neg x1]
  have h3 : (zI M 0 1 (nI 0)).1 25 3 = M.1 25 3 := by rw [zI_at, if_neg (by omega)]
  refine ⟨by rw [h3, w1, w2], n, b, hnb, hP, e, t, ts, 0, row, c, gi, cur, s, fi, la, ⟨(hf _ _ (by omega) (by omega) (by omega)).trans T1, T2, fun i hi => ⟨(hf _ _ (by omega) (by omega) (by omega)).trans (T3 i hi).1, (T3 i hi).2⟩⟩, ⟨(hf _ _ (by omega) (by omega) (by omega)).trans K1, fun k q hq => ⟨(hf _ _ (by omega) (by omega) (by omega)).trans (K2 k q hq).1, (hf _ _ (by omega) (by omega) (by omega)).trans (K2 k q hq).2⟩⟩, ho, ⟨(hf _ _ (by omega) (by omega) (by omega)).trans m1, m2, fun i hi => ⟨(hf _ _ (by omega) (by omega) (by omega)).trans (m3 i hi).1, (m3 i hi).2⟩⟩, ⟨(hf _ _ (by omega) (by omega) (by omega)).trans k1, fun k q hq => ⟨(hf _ _ (by omega) (by omega) (by omega)).trans (k2 k q hq).1, (hf _ _ (by omega) (by omega) (by omega)).trans (k2 k q hq).2.1, (hf _ _ (by omega) (by omega) (by omega)).trans (k2 k q hq).2.2⟩⟩, ⟨by rw [zI_at, if_neg (by omega), zI_at, if_neg (by omega), zI_at, if_pos ⟨rfl, rfl⟩], by rw [zI_at, if_pos ⟨rfl, rfl⟩], by omega, fun i hi => by omega⟩, ⟨(hf _ _ (by omega) (by omega) (by omega)).trans c1, (hf _ _ (by omega) (by omega) (by omega)).trans c2, c3⟩, fun k hk => ?_, ⟨(hf _ _ (by omega) (by omega) (by omega)).trans s1, (hf _ _ (by omega) (by omega) (by omega)).trans s2, s3, (hf _ _ (by omega) (by omega) (by omega)).trans s4⟩, (hf _ _ (by omega) (by omega) (by omega)).trans (hk.trans (hf _ _ (by omega) (by omega) (by omega)).symm), ⟨(hf _ _ (by omega) (by omega) (by omega)).trans g1, (hf _ _ (by omega) (by omega) (by omega)).trans g2, g3⟩, ?_, (hf _ _ (by omega) (by omega) (by omega)).trans u1, u2⟩
  · obtain ⟨⟨i1, i2, i3, i4⟩, i5, i6, i7, i8⟩ := hI k hk
    exact ⟨⟨(hf _ _ (by omega) (by omega) (by omega)).trans i1, (hf _ _ (by omega) (by omega) (by omega)).trans i2, (hf _ _ (by omega) (by omega) (by omega)).trans i3, (hf _ _ (by omega) (by omega) (by omega)).trans i4⟩, i5, (hf _ _ (by omega) (by omega) (by omega)).trans (i6.trans (hf _ _ (by omega) (by omega) (by omega)).symm), (hf _ _ (by omega) (by omega) (by omega)).trans (i7.trans (hf _ _ (by omega) (by omega) (by omega)).symm), (hf _ _ (by omega) (by omega) (by omega)).trans (i8.trans (hf _ _ (by omega) (by omega) (by omega)).symm)⟩
  · have h40 : (zI (zI (zI M 0 1 (nI 0)) 25 0 (nI 0)) 25 3 (nI 0)).1 40 = M.1 40 := funext fun i => hf 40 i (by omega) (by omega) (by omega)
    rw [h40]; exact hnu
theorem tyOk_lt {c : Nat} (h : tyOk c = true) : c < 128 := by
  have := of_decide_eq_true h
  omega
theorem iv_type {c0 : Nat} (hc0 : c0 < 65536) (h : zInv M K) : Tv Lx xs d mK_type mM_type [.int (nI c0)] M K := by
  obtain ⟨n, b, h⟩ := h
  have h0 := h
  obtain ⟨hnb, hP, e, t, ts, w, row, c, gi, cur, s, fi, la, ⟨T1, T2, T3⟩, ⟨K1, K2⟩, ho, ⟨m1, m2, m3⟩, ⟨k1, k2⟩, ⟨w1, w2, w3, w4⟩, ⟨c1, c2, c3⟩, hI, ⟨s1, s2, s3, s4⟩, hk, ⟨g1, g2, g3⟩, hnu, u1, u2⟩ := h
  have hn : zR n := by unfold zR; omega
  refine ⟨_, k_type hP hn hc0 w1 w3, fun o M1 ho1 => ?_⟩
  by_cases hc : tyOk c0 = true ∧ w < 40
  · rw [if_pos hc] at ho1
    obtain ⟨rfl, rfl⟩ := Prod.mk.inj ho1
    have hw2 : (zI (zI M 1 w (nI c0)) 0 1 (nI (w + 1))).1 25 3 = nI w := by rw [zI_at, if_neg (by omega), zI_at, if_neg (by omega)]; exact w2
    refine ⟨_, rfl, _, r_type (M := zI (zI M 1 w (nI c0)) 0 1 (nI (w + 1))) hP hc0 hw2 w3, fun o' M' ho' => ?_⟩
    rw [if_pos hc] at ho'
    obtain ⟨rfl, rfl⟩ := Prod.mk.inj ho'
    have hf : ∀ a i, ¬ (a = 0 ∧ i = 1) → ¬ (a = 25 ∧ i = 0) → ¬ (a = 25 ∧ i = 3) → ¬ (a = 1 ∧ i = w) → ¬ (a = 27 ∧ i = w) → (zI (zI (zI (zI (zI M 1 w (nI c0)) 0 1 (nI (w + 1))) 25 0 (nI 0)) 27 w (nI c0)) 25 3 (nI (w + 1))).1 a i = M.1 a i := fun a i x1 x2 x3 x4 x5 => by rw [zI_at, if_neg x3, zI_at, if_neg x5, zI_at, if_neg x2, zI_at, if_neg x1, zI_at, if_neg x4]
    refine ⟨rfl, n, b, hnb, hP, e, t, ts, w + 1, fun i => if i = w then c0 else row i, c, gi, cur, s, fi, la, ⟨(hf _ _ (by omega) (by omega) (by omega) (by omega) (by omega)).trans T1, T2, fun i hi => ⟨(hf _ _ (by omega) (by omega) (by omega) (by omega) (by omega)).trans (T3 i hi).1, (T3 i hi).2⟩⟩, ⟨(hf _ _ (by omega) (by omega) (by omega) (by omega) (by omega)).trans K1, fun k q hq => ⟨(hf _ _ (by omega) (by omega) (by omega) (by omega) (by omega)).trans (K2 k q hq).1, (hf _ _ (by omega) (by omega) (by omega) (by omega) (by omega)).trans (K2 k q hq).2⟩⟩, ho, ⟨(hf _ _ (by omega) (by omega) (by omega) (by omega) (by omega)).trans m1, m2, fun i hi => ⟨(hf _ _ (by omega) (by omega) (by omega) (by omega) (by omega)).trans (m3 i hi).1, (m3 i hi).2⟩⟩, ⟨(hf _ _ (by omega) (by omega) (by omega) (by omega) (by omega)).trans k1, fun k q hq => ⟨(hf _ _ (by omega) (by omega) (by omega) (by omega) (by omega)).trans (k2 k q hq).1, (hf _ _ (by omega) (by omega) (by omega) (by omega) (by omega)).trans (k2 k q hq).2.1, (hf _ _ (by omega) (by omega) (by omega) (by omega) (by omega)).trans (k2 k q hq).2.2⟩⟩, ⟨?_, ?_, by omega, fun i hi => ?_⟩, ⟨(hf _ _ (by omega) (by omega) (by omega) (by omega) (by omega)).trans c1, (hf _ _ (by omega) (by omega) (by omega) (by omega) (by omega)).trans c2, c3⟩, fun k hk => ?_, ⟨(hf _ _ (by omega) (by omega) (by omega) (by omega) (by omega)).trans s1, (hf _ _ (by omega) (by omega) (by omega) (by omega) (by omega)).trans s2, s3, (hf _ _ (by omega) (by omega) (by omega) (by omega) (by omega)).trans s4⟩, (hf _ _ (by omega) (by omega) (by omega) (by omega) (by omega)).trans (hk.trans (hf _ _ (by omega) (by omega) (by omega) (by omega) (by omega)).symm), ⟨(hf _ _ (by omega) (by omega) (by omega) (by omega) (by omega)).trans g1, (hf _ _ (by omega) (by omega) (by omega) (by omega) (by omega)).trans g2, g3⟩, ?_, (hf _ _ (by omega) (by omega) (by omega) (by omega) (by omega)).trans u1, u2⟩
    · rw [zI_at, if_neg (by omega), zI_at, if_neg (by omega), zI_at, if_neg (by omega), zI_at, if_pos ⟨rfl, rfl⟩]
    · rw [zI_at, if_pos ⟨rfl, rfl⟩]
    · show _ = nI (if i = w then c0 else row i) ∧ _ = nI (if i = w then c0 else row i) ∧ (if i = w then c0 else row i) < 128
      by_cases hi2 : i = w
      · subst hi2
        rw [if_pos rfl]
        refine ⟨?_, ?_, tyOk_lt hc.1⟩
        · rw [zI_at, if_neg (by omega), zI_at, if_neg (by omega), zI_at, if_neg (by omega), zI_at, if_neg (by omega), zI_at, if_pos ⟨rfl, rfl⟩]
        · rw [zI_at, if_neg (by omega), zI_at, if_pos ⟨rfl, rfl⟩]
      · rw [if_neg hi2]
        have h4 := w4 i (by omega)
        exact ⟨(hf _ _ (by omega) (by omega) (by omega) (by omega) (by omega)).trans h4.1, (hf _ _ (by omega) (by omega) (by omega) (by omega) (by omega)).trans h4.2.1, h4.2.2⟩
    · obtain ⟨⟨i1, i2, i3, i4⟩, i5, i6, i7, i8⟩ := hI k hk
      exact ⟨⟨(hf _ _ (by omega) (by omega) (by omega) (by omega) (by omega)).trans i1, (hf _ _ (by omega) (by omega) (by omega) (by omega) (by omega)).trans i2, (hf _ _ (by omega) (by omega) (by omega) (by omega) (by omega)).trans i3, (hf _ _ (by omega) (by omega) (by omega) (by omega) (by omega)).trans i4⟩, i5, (hf _ _ (by omega) (by omega) (by omega) (by omega) (by omega)).trans (i6.trans (hf _ _ (by omega) (by omega) (by omega) (by omega) (by omega)).symm), (hf _ _ (by omega) (by omega) (by omega) (by omega) (by omega)).trans (i7.trans (hf _ _ (by omega) (by omega) (by omega) (by omega) (by omega)).symm), (hf _ _ (by omega) (by omega) (by omega) (by omega) (by omega)).trans (i8.trans (hf _ _ (by omega) (by omega) (by omega) (by omega) (by omega)).symm)⟩
    · have h40 : (zI (zI (zI (zI (zI M 1 w (nI c0)) 0 1 (nI (w + 1))) 25 0 (nI 0)) 27 w (nI c0)) 25 3 (nI (w + 1))).1 40 = M.1 40 := funext fun i => hf 40 i (by omega) (by omega) (by omega) (by omega) (by omega)
      rw [h40]; exact hnu
  · rw [if_neg hc] at ho1
    obtain ⟨rfl, rfl⟩ := Prod.mk.inj ho1
    refine ⟨_, rfl, _, r_type hP hc0 w2 w3, fun o' M' ho' => ?_⟩
    rw [if_neg hc] at ho'
    obtain ⟨rfl, rfl⟩ := Prod.mk.inj ho'
    exact ⟨rfl, n, b, h0.th⟩
end
