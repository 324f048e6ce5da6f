/- an edit: both sides answer alike and hold the same behind it -/
section
variable {Lx : Nat} {xs : Nat → Int32} {D0 d' : Nat} {M : zM} {n b K : Nat}
set_option maxRecDepth 100000 in
set_option maxHeartbeats 4000000 in
theorem iv_editN {p g e w c gi cur : Nat} {t row fi la : Nat → Nat} {ts : List (Nat × Nat × Nat)} (hK : K ≤ 1000) (hnb : (n = 2 ∧ b = 13) ∨ (n = 13 ∧ b = 2)) (hP : M.2.1 = zP0 n b) (hT : Txt M n t e) (hk : Toks M n t ts) (ho : tsOk e ts) (hT' : TxM M t e) (hk' : TkM M ts)
    (hw : M.1 0 1 = nI w ∧ M.1 25 3 = nI w ∧ w ≤ 40 ∧ ∀ i, i < w → M.1 1 i = nI (row i) ∧ M.1 27 i = nI (row i) ∧ row i < 128)
    (hc : M.1 (n + 2) 5 = nI c ∧ M.1 25 14 = nI c ∧ c ≤ 160)
    (hI : ∀ k, k < c → (M.1 (n + 6) k = nI (fi k) ∧ M.1 35 k = nI (fi k) ∧ M.1 (n + 7) k = nI (la k) ∧ M.1 36 k = nI (la k)) ∧ (fi k ≤ la k ∧ la k < ts.length) ∧ M.1 (n + 8) k = M.1 37 k ∧ M.1 (n + 9) k = M.1 41 k ∧ M.1 (n + 10) k = M.1 40 k)
    (hg : M.1 0 6 = nI gi ∧ M.1 25 27 = nI gi ∧ gi ≤ 160 * K) (hnu : nuOk (M.1 40) c gi) (hcur : M.1 25 35 = nI cur) (hcur2 : cur < 160) (hpg : p + g ≤ e) (hfit : e - g + w ≤ 160) : Tn Lx xs (D0 + 1152) (d' + 6) mK_edit mM_edit [.int (nI p), .int (nI g)] M (K + 1) := by
  have h160 : ts.length ≤ 160 := Nat.le_trans ho.2.1 ho.1
  have hOl : Old M n e t ts c fi la := ⟨hT, hk, ho, hc.1, hc.2.2, fun k hk => by
    obtain ⟨⟨i1, i2, i3, i4⟩, ⟨i5, i6⟩, -⟩ := hI k hk
    exact ⟨i1, i3, by omega, by omega⟩⟩
  have hO : ∀ j, j < c → fi j ≤ la j ∧ la j < ts.length := fun j hj => (hI j hj).2.1
  refine ⟨_, k_edit hP hnb hw.1 hw.2.2.1 (fun i hi => ⟨(hw.2.2.2 i hi).1, (hw.2.2.2 i hi).2.2⟩) hOl hpg hfit hg.1, fun o M1 ho1 => ?_⟩
  obtain ⟨rfl, T0, N0, hT0, hR⟩ := ho1
  refine ⟨_, rfl, fun z => ?_⟩
  have ho' : tsOk (e - g + w) (lAll (eT t row p g w) (e - g + w)) := tsOk_all hfit
  have hs' : tsSg (eT t row p g w) (lAll (eT t row p g w) (e - g + w)) := tsSg_all
  have h160' : (lAll (eT t row p g w) (e - g + w)).length ≤ 160 := Nat.le_trans ho'.2.1 ho'.1
  have hrd := rd_eq ho' hs' T0 hT0 cur
  obtain ⟨r1, r2, r3, r4, r5, r6, r7, r8, r9, r10, r11, r12⟩ := hR
  have hcl : ∀ o i, 25 ≤ o → (zJ M1 z).1 o i = M.1 o i := fun o i h => r12 o i h
  have hinc := pA_inc (nT := (lAll (eT t row p g w) (e - g + w)).length) (mk := tMk (eT t row p g w) (lAll (eT t row p g w) (e - g + w))) (tv := tTv (eT t row p g w) (lAll (eT t row p g w) (e - g + w))) (sl := tSl (lAll (eT t row p g w) (e - g + w))) (same := tSm (eT t row p g w) (lAll (eT t row p g w) (e - g + w))) h160' 160 0 (0, false) T0 (Nat.zero_le _) ⟨fun j hj => by omega, fun i j _ hj => by omega⟩
  have hpos := (pA_dn (nT := (lAll (eT t row p g w) (e - g + w)).length) (mk := tMk (eT t row p g w) (lAll (eT t row p g w) (e - g + w))) (tv := tTv (eT t row p g w) (lAll (eT t row p g w) (e - g + w))) (sl := tSl (lAll (eT t row p g w) (e - g + w))) (same := tSm (eT t row p g w) (lAll (eT t row p g w) (e - g + w))) 160 0 (0, false) T0 (Nat.zero_le _) (fun j _ hj => by omega) ⟨by omega, fun j hj => by omega⟩).1
  have hr := r_edit (Lx := Lx) (xs := xs) (d := d') (M := zJ M1 z) (n := b) (b := n) (w := w) (e := e) (p := p) (g := g) (gi := gi) (c0 := c) (cur := cur) (row := row) (t := t) (fi0 := fi) (la0 := la) (ts := ts) r1 ((hcl _ _ (by omega)).trans hw.2.1) hw.2.2.1 (fun i hi => ⟨(hcl _ _ (by omega)).trans (hw.2.2.2 i hi).2.1, (hw.2.2.2 i hi).2.2⟩) ⟨(hcl _ _ (by omega)).trans hT'.1, hT'.2.1, fun i hi => ⟨(hcl _ _ (by omega)).trans (hT'.2.2 i hi).1, (hT'.2.2 i hi).2⟩⟩ ⟨(hcl _ _ (by omega)).trans hk'.1, fun k q hq => ⟨(hcl _ _ (by omega)).trans (hk'.2 k q hq).1, (hcl _ _ (by omega)).trans (hk'.2 k q hq).2.1, (hcl _ _ (by omega)).trans (hk'.2 k q hq).2.2⟩⟩ ho ((hcl _ _ (by omega)).trans hc.2.1) hc.2.2 (fun j hj => ⟨(hcl _ _ (by omega)).trans (hI j hj).1.2.1, (hcl _ _ (by omega)).trans (hI j hj).1.2.2.2, (hO j hj).1, (hO j hj).2⟩) ((hcl _ _ (by omega)).trans hg.2.1) ((hcl _ _ (by omega)).trans hcur) hcur2 hpg hfit (fun A => (hrd A).2.2.2.2.2.1)
  refine ⟨_, hr, fun o' M' ho1 => ?_⟩
  obtain ⟨rfl, A, num0, N1, V0, hnum, hM⟩ := ho1
  obtain ⟨q1, q2, q3, q4, q5, q6, q7, q8, q9, q10, q11, q12, q13, q14, q15, q16, q17⟩ := hM
  obtain ⟨e1, e2, e3, e4, e5, e6, e7⟩ := hrd A
  have hiv := aRun_iv (tMk (eT t row p g w) (lAll (eT t row p g w) (e - g + w))) (lAll (eT t row p g w) (e - g + w)).length 0 (0, []) (([], 0, 0, cur), A) ⟨Nat.le_refl _, hcur2, (fun x hx => by cases hx), rfl, (fun hh => by cases hh), by show 0 ≤ 6; omega⟩ (by omega)
  have hiv : (aX (eT t row p g w) (lAll (eT t row p g w) (e - g + w)) (([], 0, 0, cur), A)).2.2.1.2.2.2 < 160 := hiv
  have hinc : ∀ i j, i < j → j < (eA (eT t row p g w) (lAll (eT t row p g w) (e - g + w)) T0).2.1 → tF (eA (eT t row p g w) (lAll (eT t row p g w) (e - g + w)) T0).2 i < tF (eA (eT t row p g w) (lAll (eT t row p g w) (e - g + w)) T0).2 j := hinc
  have hpos : (eA (eT t row p g w) (lAll (eT t row p g w) (e - g + w)) T0).1.1 ≤ (lAll (eT t row p g w) (e - g + w)).length := hpos
  rw [e2] at q7 q14 q15 q13 q16
  generalize aX (eT t row p g w) (lAll (eT t row p g w) (e - g + w)) (([], 0, 0, cur), A) = X at *
  have hoi : ∀ k, k < (eA (eT t row p g w) (lAll (eT t row p g w) (e - g + w)) T0).2.1 → mOf (fun j => imV p g w (lAll (eT t row p g w) (e - g + w)) (tk ts j)) fi la (tF (eA (eT t row p g w) (lAll (eT t row p g w) (e - g + w)) T0).2 k) (tL (eA (eT t row p g w) (lAll (eT t row p g w) (e - g + w)) T0).2 k) c 0 = eI p g w ts (lAll (eT t row p g w) (e - g + w)) c fi la (eA (eT t row p g w) (lAll (eT t row p g w) (e - g + w)) T0).2 k := fun k hk => by
    have h1 := itOk_tL h160' (e5 k hk)
    exact mOf_oItem ho ho' h1.1 h1.2 hO
  have hcg := nGo_cg (oi := fun k => mOf (fun j => imV p g w (lAll (eT t row p g w) (e - g + w)) (tk ts j)) fi la (tF (eA (eT t row p g w) (lAll (eT t row p g w) (e - g + w)) T0).2 k) (tL (eA (eT t row p g w) (lAll (eT t row p g w) (e - g + w)) T0).2 k) c 0) (oi' := eI p g w ts (lAll (eT t row p g w) (e - g + w)) c fi la (eA (eT t row p g w) (lAll (eT t row p g w) (e - g + w)) T0).2) (num0 := num0) (num0' := M.1 (n + 10)) (eA (eT t row p g w) (lAll (eT t row p g w) (e - g + w)) T0).2.1 0 (0, gi, N1) (0, gi, N0) (fun i _ hi => ⟨hoi i (by omega), fun hne => ?_⟩) rfl rfl (fun i hi => by omega)
  case refine_1 =>
    have hne : mOf (fun j => imV p g w (lAll (eT t row p g w) (e - g + w)) (tk ts j)) fi la (tF (eA (eT t row p g w) (lAll (eT t row p g w) (e - g + w)) T0).2 i) (tL (eA (eT t row p g w) (lAll (eT t row p g w) (e - g + w)) T0).2 i) c 0 ≠ -1 := hne
    show num0 (mOf (fun j => imV p g w (lAll (eT t row p g w) (e - g + w)) (tk ts j)) fi la (tF (eA (eT t row p g w) (lAll (eT t row p g w) (e - g + w)) T0).2 i) (tL (eA (eT t row p g w) (lAll (eT t row p g w) (e - g + w)) T0).2 i) c 0).toNatClampNeg = M.1 (n + 10) (mOf (fun j => imV p g w (lAll (eT t row p g w) (e - g + w)) (tk ts j)) fi la (tF (eA (eT t row p g w) (lAll (eT t row p g w) (e - g + w)) T0).2 i) (tL (eA (eT t row p g w) (lAll (eT t row p g w) (e - g + w)) T0).2 i) c 0).toNatClampNeg
    rcases mOf_in (im := fun j => imV p g w (lAll (eT t row p g w) (e - g + w)) (tk ts j)) (fi0 := fi) (la0 := la) (a := tF (eA (eT t row p g w) (lAll (eT t row p g w) (e - g + w)) T0).2 i) (z := tL (eA (eT t row p g w) (lAll (eT t row p g w) (e - g + w)) T0).2 i) c 0 with hm | ⟨j, j1, j2⟩
    · exact absurd hm hne
    · rw [j2, nI_clamp (by omega), hnum j (by omega), (hI j (by omega)).2.2.2.2]
      exact hcl _ _ (by omega)
  have hnum2 : nuOk num0 c gi := by
    refine ⟨fun k hk => ?_, fun i j hij hj => ?_⟩
    · obtain ⟨m, m1, m2⟩ := hnu.1 k hk
      exact ⟨m, m1, by rw [hnum k hk, hcl _ _ (by omega)]; exact m2⟩
    · rw [hnum i (by omega), hnum j hj, hcl _ _ (by omega), hcl _ _ (by omega)]
      exact hnu.2 i j hij hj
  have hok := nGo_ok (oi := fun k => mOf (fun j => imV p g w (lAll (eT t row p g w) (e - g + w)) (tk ts j)) fi la (tF (eA (eT t row p g w) (lAll (eT t row p g w) (e - g + w)) T0).2 k) (tL (eA (eT t row p g w) (lAll (eT t row p g w) (e - g + w)) T0).2 k) c 0) (num0 := num0) (N0 := N1) (C := (eA (eT t row p g w) (lAll (eT t row p g w) (e - g + w)) T0).2.1) (c0 := c) (gi := gi) (by omega) hnum2 (fun k hk => by
      rcases mOf_in (im := fun j => imV p g w (lAll (eT t row p g w) (e - g + w)) (tk ts j)) (fi0 := fi) (la0 := la) (a := tF (eA (eT t row p g w) (lAll (eT t row p g w) (e - g + w)) T0).2 k) (z := tL (eA (eT t row p g w) (lAll (eT t row p g w) (e - g + w)) T0).2 k) c 0 with hm | ⟨j, j1, j2⟩
      · exact Or.inl hm
      · exact Or.inr ⟨j, by omega, j2⟩) hc.2.2 (fun i j hij hj hne => by
      have h1 := itOk_tL h160' (e5 i (by omega))
      have h2 := itOk_tL h160' (e5 j hj)
      have h3 := hinc i j hij hj
      have g1 := hoi i (by omega)
      have g2 := hoi j hj
      show mOf (fun j => imV p g w (lAll (eT t row p g w) (e - g + w)) (tk ts j)) fi la (tF (eA (eT t row p g w) (lAll (eT t row p g w) (e - g + w)) T0).2 i) (tL (eA (eT t row p g w) (lAll (eT t row p g w) (e - g + w)) T0).2 i) c 0 ≠ mOf (fun j => imV p g w (lAll (eT t row p g w) (e - g + w)) (tk ts j)) fi la (tF (eA (eT t row p g w) (lAll (eT t row p g w) (e - g + w)) T0).2 j) (tL (eA (eT t row p g w) (lAll (eT t row p g w) (e - g + w)) T0).2 j) c 0
      have hne : mOf (fun j => imV p g w (lAll (eT t row p g w) (e - g + w)) (tk ts j)) fi la (tF (eA (eT t row p g w) (lAll (eT t row p g w) (e - g + w)) T0).2 i) (tL (eA (eT t row p g w) (lAll (eT t row p g w) (e - g + w)) T0).2 i) c 0 ≠ -1 := hne
      rw [g1] at hne ⊢
      rw [g2]
      exact oi_inj (fi := tF (eA (eT t row p g w) (lAll (eT t row p g w) (e - g + w)) T0).2) (la := tL (eA (eT t row p g w) (lAll (eT t row p g w) (e - g + w)) T0).2) ho ho' hO hc.2.2 (by omega) (by omega) (by omega) hne)
  generalize nGo (fun k => mOf (fun j => imV p g w (lAll (eT t row p g w) (e - g + w)) (tk ts j)) fi la (tF (eA (eT t row p g w) (lAll (eT t row p g w) (e - g + w)) T0).2 k) (tL (eA (eT t row p g w) (lAll (eT t row p g w) (e - g + w)) T0).2 k) c 0) num0 (eA (eT t row p g w) (lAll (eT t row p g w) (e - g + w)) T0).2.1 0 (0, gi, N1) = Y at *
  generalize nGo (eI p g w ts (lAll (eT t row p g w) (e - g + w)) c fi la (eA (eT t row p g w) (lAll (eT t row p g w) (e - g + w)) T0).2) (M.1 (n + 10)) (eA (eT t row p g w) (lAll (eT t row p g w) (e - g + w)) T0).2.1 0 (0, gi, N0) = Z at *
  have hlo : ∀ o i, o < 25 → M'.1 o i = M1.1 o i := fun o i h => q17 o i h
  refine ⟨by rw [imC_oC ho ho' ts.length (Nat.le_refl _)], q2, q3, b, n, by omega, q1, e - g + w, eT t row p g w, lAll (eT t row p g w) (e - g + w), 0, row, (eA (eT t row p g w) (lAll (eT t row p g w) (e - g + w)) T0).2.1, Y.2.1, X.2.2.1.2.2.2, (eA (eT t row p g w) (lAll (eT t row p g w) (e - g + w)) T0).1, tF (eA (eT t row p g w) (lAll (eT t row p g w) (e - g + w)) T0).2, tL (eA (eT t row p g w) (lAll (eT t row p g w) (e - g + w)) T0).2, ⟨(hlo _ _ (by omega)).trans r3.1, r3.2.1, fun i hi => ⟨(hlo _ _ (by omega)).trans (r3.2.2 i hi).1, (r3.2.2 i hi).2⟩⟩, ⟨(hlo _ _ (by omega)).trans r4.1, fun k q hq => ⟨(hlo _ _ (by omega)).trans (r4.2 k q hq).1, (hlo _ _ (by omega)).trans (r4.2 k q hq).2⟩⟩, ho', q4, q5, ⟨(hlo _ _ (by omega)).trans r11, q6, by omega, fun i hi => by omega⟩, ⟨(hlo _ _ (by omega)).trans r7, q7, e3⟩, fun k hk => ?_, ⟨(hlo _ _ (by omega)).trans r5, (hlo _ _ (by omega)).trans r6, by omega, q12.trans e1⟩, ?_, ⟨?_, q14, by have := hok.2; omega⟩, ?_, q8, hiv⟩
  · obtain ⟨a1, a2, a3, a4, a5⟩ := r8 k
    obtain ⟨b1, b2, b3, b4, b5⟩ := e4 k (Nat.zero_le _) hk
    have h1 := itOk_tL h160' (e5 k hk)
    obtain ⟨a, zz, dp, x1, x2, x3, x4, x5, -⟩ := e5 k hk
    have y1 : nI (tF (eA (eT t row p g w) (lAll (eT t row p g w) (e - g + w)) T0).2 k) = (eA (eT t row p g w) (lAll (eT t row p g w) (e - g + w)) T0).2.2.1 k := by
      unfold tF; rw [x1, nI_clamp (by omega)]
    have y2 : nI (tL (eA (eT t row p g w) (lAll (eT t row p g w) (e - g + w)) T0).2 k) = (eA (eT t row p g w) (lAll (eT t row p g w) (e - g + w)) T0).2.2.2.1 k := by
      unfold tL; rw [x2, nI_clamp (by omega)]
    refine ⟨⟨?_, ?_, ?_, ?_⟩, h1, ?_, ?_, ?_⟩
    · rw [y1]; exact (hlo _ _ (by omega)).trans a1
    · rw [y1, q9]; exact b1
    · rw [y2]; exact (hlo _ _ (by omega)).trans a2
    · rw [y2, q10]; exact b2
    · rw [q11]; exact (hlo _ _ (by omega)).trans (a3.trans b3.symm)
    · rw [q16]; exact (hlo _ _ (by omega)).trans (a4.trans (by have := e7 V0 k hk; rw [e2] at this; exact this.symm))
    · rw [q15]; exact (hlo _ _ (by omega)).trans (a5.trans (hcg.2.2 k (by omega)).symm)
  · rw [q13, hcg.1]; exact (hlo _ _ (by omega)).trans r9
  · rw [hcg.2.1]; exact (hlo _ _ (by omega)).trans r10
  · rw [q15]; exact hok.1
theorem iv_edit {x y : Int32} (hK : K ≤ 1000) (h : zInv M K) : Tn Lx xs (D0 + 1152) (d' + 6) mK_edit mM_edit [.int x, .int y] M (K + 1) ∨ Tx Lx xs (D0 + 1152) (d' + 6) mK_edit mM_edit [.int x, .int y] M (K + 1) 31 1 ∨ Tx Lx xs (D0 + 1152) (d' + 6) mK_edit mM_edit [.int x, .int y] M (K + 1) 53 2 := by
  obtain ⟨n, b, h⟩ := h
  have h0 := h
  obtain ⟨hnb, hP, e, t, ts, w, row, c, gi, cur, s, fi, la, hT, hk, ho, hT', hk', hw, hc, hI, hs, hkp, hg, hnu, hcur, hcur2⟩ := h
  have hn : zR n := by unfold zR; omega
  have he := hT.2.1
  by_cases hbad : x < nI 0 ∨ nI e < x ∨ y < nI 0 ∨ nI e - x < y
  · exact Or.inr (Or.inl (tx_pu (h0.up (Nat.le_succ K)) (k_edit_iob hP hn hT.1 hbad) (r_edit_1 hP hT'.1 hbad)))
  · have hx : ∃ p, p ≤ e ∧ x = nI p := by
      rcases pk_ix x (n := e + 1) (by omega) with hx | hx | ⟨j, j1, j2⟩
      · exact absurd (Or.inl hx) hbad
      · exact absurd (Or.inr (Or.inl (Int32.lt_of_lt_of_le (nI_lt (Nat.lt_succ_self e) (by omega)) hx))) hbad
      · exact ⟨j, by omega, j2⟩
    obtain ⟨p, hp, rfl⟩ := hx
    have hy : ∃ g, g ≤ e - p ∧ y = nI g := by
      rcases pk_ix y (n := e - p + 1) (by omega) with hy | hy | ⟨j, j1, j2⟩
      · exact absurd (Or.inr (Or.inr (Or.inl hy))) hbad
      · refine absurd (Or.inr (Or.inr (Or.inr ?_))) hbad
        rw [pk_sub hp]
        exact Int32.lt_of_lt_of_le (nI_lt (Nat.lt_succ_self (e - p)) (by omega)) hy
      · exact ⟨j, by omega, j2⟩
    obtain ⟨g, hg2, rfl⟩ := hy
    by_cases hfit : e - g + w ≤ 160
    · exact Or.inl (iv_editN hK hnb hP hT hk ho hT' hk' hw hc hI hg hnu hcur hcur2 (by omega) hfit)
    · exact Or.inr (Or.inr (tx_pu (h0.up (Nat.le_succ K)) (k_edit_ise hP hn hT.1 he hw.1 hw.2.2.1 (by omega) (by omega)) (r_edit_2 hP hT'.1 he hw.2.1 hw.2.2.1 (by omega) (by omega))))
end
