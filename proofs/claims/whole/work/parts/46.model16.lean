/- the reference: edit (rows laid by program) -/
theorem lTok_sig (t : Nat → Nat) (n : Nat) : ∀ (f p k : Nat) (q : Nat × Nat × Nat), (lTok t n f p)[k]? = some q → q.2.2 = lKind t n q.1
  | 0, p, k, q, h => by simp [lTok] at h
  | f + 1, p, k, q, h => by
    unfold lTok at h
    split at h
    · cases k with
      | zero => simp at h; subst h; rfl
      | succ k => rw [List.getElem?_cons_succ] at h; exact lTok_sig t n f _ k q h
    · simp at h
theorem lKind_sig {t : Nat → Nat} {n p : Nat} (h : lKind t n p = 3) : lSig (t p) = true := by
  unfold lKind at h
  repeat' split at h
  all_goals first | (exfalso; omega) | assumption
theorem mtk_all {M : zM} {t : Nat → Nat} {e : Nat} (hT : TxM M t e) (hk : TkM M (lAll t e)) : MTk M e t (lAll t e) :=
  ⟨hT, hk, tsOk_all hT.2.1, fun k hk2 h3 => lKind_sig ((lTok_sig t e 161 _ k _ (tk_at hk2)).symm.trans h3)⟩
theorem mRun_cg {im im' : Nat → Int32} {N : Nat} (h : ∀ j, j < N → im j = im' j) (a q : Nat) : ∀ (f t : Nat), t + f ≤ N → mRun im a q f t = mRun im' a q f t
  | 0, _, _ => rfl
  | f + 1, t, hf => by
    unfold mRun
    rw [h t (by omega), mRun_cg h a q f (t + 1) (by omega)]
theorem mOf_cg {im im' : Nat → Int32} {N : Nat} (h : ∀ j, j < N → im j = im' j) {fi0 la0 : Nat → Nat} {a z c0 : Nat} (hl : ∀ j, j < c0 → fi0 j ≤ la0 j ∧ la0 j < N) : ∀ (f j : Nat), j + f ≤ c0 → mOf im fi0 la0 a z f j = mOf im' fi0 la0 a z f j
  | 0, _, _ => rfl
  | f + 1, j, hf => by
    unfold mOf
    have := hl j (by omega)
    rw [mRun_cg h a (fi0 j) (la0 j + 1 - fi0 j) (fi0 j) (by omega), mOf_cg h hl f (j + 1) (by omega)]
theorem mOf_in {im : Nat → Int32} {fi0 la0 : Nat → Nat} {a z : Nat} : ∀ (f j : Nat), mOf im fi0 la0 a z f j = -1 ∨ ∃ i, i < j + f ∧ mOf im fi0 la0 a z f j = nI i
  | 0, _ => Or.inl rfl
  | f + 1, j => by
    unfold mOf
    split
    · exact Or.inr ⟨j, by omega, rfl⟩
    · rcases mOf_in (im := im) (fi0 := fi0) (la0 := la0) (a := a) (z := z) f (j + 1) with h | ⟨i, h1, h2⟩
      · exact Or.inl h
      · exact Or.inr ⟨i, by omega, h2⟩
theorem aRun_iv (mk : Nat → Nat) : ∀ (f k : Nat) (q : Nat × List Nat) (B : aB), aIv k q B → k + f ≤ 160 → (aRun mk f k q B).2.2.1.2.2.2 < 160
  | 0, k, q, B, hv, _ => hv.2.1
  | f + 1, k, q, B, hv, hk => by
    unfold aRun
    split
    · rename_i x hx
      exact aRun_iv mk f (k + 1) x.1 x.2 (aTok_iv hv (by omega) hx) (by omega)
    · exact hv.2.1
def aX (t : Nat → Nat) (ts : List (Nat × Nat × Nat)) (B : aB) : Nat × (Nat × List Nat) × aB := aRun (tMk t ts) ts.length 0 (0, []) B
/-- where an item's own expression begins -/
def fFr (fi : Nat → Nat) (df : Nat → Bool) (k : Nat) : Nat := if df k = true then fi k + 2 else fi k
def FOk (t : Nat → Nat) (ts : List (Nat × Nat × Nat)) (B : aB) (fi la : Nat → Nat) (br df : Nat → Bool) : Prop :=
  B.1.2.2.1 ≤ 160 ∧ (∀ k, k < B.1.2.2.1 → B.2.1 k = nI (fi k)) ∧ (∀ k, k < B.1.2.2.1 → B.2.2.1 k = nI (la k)) ∧ (∀ k, k < B.1.2.2.1 → B.2.2.2.2.1 k = nI (br k).toNat) ∧ (∀ k, k < B.1.2.2.1 → B.2.2.2.2.2 k = nI (df k).toNat) ∧ (∀ k, k < B.1.2.2.1 → fi k ≤ la k ∧ la k < ts.length) ∧ (∀ k, k < B.1.2.2.1 → br k = false → (if df k = true then fi k + 2 else fi k) ≤ la k) ∧ ∀ V0 k, k < B.1.2.2.1 → br k = false → ∀ va, va = fAll (fVal t ts B.2.1 B.2.2.1 B.2.2.2.1 B.1.2.2.1 fi la br df) V0 k → ∃ x r, eGo (tMk t ts) (tTv t ts) (tSl ts) (fun nm => mNam df (mSm t ts) fi va nm k 0 (nI 0)) (if df k = true then fi k + 2 else fi k) (la k - (if df k = true then fi k + 2 else fi k)) (if df k = true then fi k + 2 else fi k) [eFirst] true = some (x :: r)
/-- what an edit leaves in the reference -/
def EdM (M M' : zM) (n b e' : Nat) (t' : Nat → Nat) (ts' : List (Nat × Nat × Nat)) (X : Nat × (Nat × List Nat) × aB) (x : Nat × Nat × (Nat → Int32)) (V : Nat → Int32) : Prop :=
  M'.2.1 = zP0 n b ∧ M'.2.2 = M.2.2 ∧ M'.1 25 0 = nI 0 ∧ TxM M' t' e' ∧ TkM M' ts' ∧ M'.1 25 3 = nI 0 ∧ M'.1 25 14 = nI X.2.2.1.2.2.1 ∧ M'.1 25 35 = nI X.2.2.1.2.2.2 ∧ M'.1 35 = X.2.2.2.1 ∧ M'.1 36 = X.2.2.2.2.1 ∧ M'.1 37 = X.2.2.2.2.2.1 ∧ M'.1 25 29 = aFl e' ts' X ∧ M'.1 25 28 = nI x.1 ∧ M'.1 25 27 = nI x.2.1 ∧ M'.1 40 = x.2.2 ∧ M'.1 41 = V ∧ ∀ o i, o < 25 → M'.1 o i = M.1 o i
section
variable {Lx : Nat} {xs : Nat → Int32} {d : Nat} {M : zM} {n b : Nat}
set_option maxRecDepth 100000 in
set_option maxHeartbeats 4000000 in
theorem r_edit {w e p g gi c0 cur : Nat} {row t fi0 la0 fi la : Nat → Nat} {br df : Nat → Bool} {ts : List (Nat × Nat × Nat)} (hP : M.2.1 = zP0 n b) (hw : M.1 25 3 = nI w) (hw40 : w ≤ 40) (hrow : ∀ i, i < w → M.1 27 i = nI (row i) ∧ row i < 128) (hT : TxM M t e) (hk : TkM M ts) (ho : tsOk e ts) (hc0 : M.1 25 14 = nI c0) (hc02 : c0 ≤ 160) (hO : ∀ j, j < c0 → M.1 35 j = nI (fi0 j) ∧ M.1 36 j = nI (la0 j) ∧ fi0 j ≤ la0 j ∧ la0 j < ts.length) (hgi : M.1 25 27 = nI gi) (hcur : M.1 25 35 = nI cur) (hcur2 : cur < 160) (hpg : p + g ≤ e) (hfit : e - g + w ≤ 160) (hF : ∀ A, FOk (eT t row p g w) (lAll (eT t row p g w) (e - g + w)) (aX (eT t row p g w) (lAll (eT t row p g w) (e - g + w)) (([], 0, 0, cur), A)).2.2 fi la br df) : Ct Lx xs (d + 6) mM_edit [.ref 25, .int (nI p), .int (nI g)] M (fun q M' => q = some (nI (lAll (eT t row p g w) (e - g + w)).length - nI (imC (fun j => imV p g w (lAll (eT t row p g w) (e - g + w)) (tk ts j)) ts.length)) ∧ ∃ (A : (Nat → Int32) × (Nat → Int32) × (Nat → Int32) × (Nat → Int32) × (Nat → Int32)) (num0 N0 V0 : Nat → Int32), (∀ j, j < c0 → num0 j = M.1 40 j) ∧ EdM M M' n b (e - g + w) (eT t row p g w) (lAll (eT t row p g w) (e - g + w)) (aX (eT t row p g w) (lAll (eT t row p g w) (e - g + w)) (([], 0, 0, cur), A)) (nGo (fun k => mOf (fun j => imV p g w (lAll (eT t row p g w) (e - g + w)) (tk ts j)) fi0 la0 (fi k) (la k) c0 0) num0 (aX (eT t row p g w) (lAll (eT t row p g w) (e - g + w)) (([], 0, 0, cur), A)).2.2.1.2.2.1 0 (0, gi, N0)) (fAll (fVal (eT t row p g w) (lAll (eT t row p g w) (e - g + w)) (aX (eT t row p g w) (lAll (eT t row p g w) (e - g + w)) (([], 0, 0, cur), A)).2.2.2.1 (aX (eT t row p g w) (lAll (eT t row p g w) (e - g + w)) (([], 0, 0, cur), A)).2.2.2.2.1 (aX (eT t row p g w) (lAll (eT t row p g w) (e - g + w)) (([], 0, 0, cur), A)).2.2.2.2.2.1 (aX (eT t row p g w) (lAll (eT t row p g w) (e - g + w)) (([], 0, 0, cur), A)).2.2.1.2.2.1 fi la br df) V0 (aX (eT t row p g w) (lAll (eT t row p g w) (e - g + w)) (([], 0, 0, cur), A)).2.2.1.2.2.1)) := by
  unfold Ct
  have he := hT.2.1
  have hlen := ho.2.1
  refine ev_al dM_edit_0 rfl (by first | assumption | rfl) ?_
  refine ev_il dM_edit_1 rfl (by first | assumption | rfl) ?_
  refine ev_if0 (tgt := 27) dM_edit_2 (by decide) (fun h2 => ?_) (fun h2 => ?_)
  · first | omega | (simp (disch := omega) only [zcond, nI_ltI, nI_leI, nI_eq] at h2; omega)
  · try simp (disch := omega) only [zcond, nI_ltI, nI_leI, nI_eq, zb0, Classical.not_not, Bool.not_eq_false, Bool.not_eq_true, Nat.not_lt, Nat.not_le] at h2
    refine ev_il dM_edit_5 rfl (by first | assumption | rfl) ?_
    refine ev_al dM_edit_6 rfl (by first | assumption | rfl) ?_
    refine ev_geti dM_edit_7 fM_103 rfl ?_
    rw [hT.1]
    refine ev_icmp (tgt := 27) dM_edit_10 (by decide) (fun h10 => ?_) (fun h10 => ?_)
    · first | omega | (simp (disch := omega) only [zcond, nI_ltI, nI_leI, nI_eq] at h10; omega)
    · try simp (disch := omega) only [zcond, nI_ltI, nI_leI, nI_eq, zb0, Classical.not_not, Bool.not_eq_false, Bool.not_eq_true, Nat.not_lt, Nat.not_le] at h10
      refine ev_il dM_edit_13 rfl (by first | assumption | rfl) ?_
      refine ev_if0 (tgt := 27) dM_edit_14 (by decide) (fun h14 => ?_) (fun h14 => ?_)
      · first | omega | (simp (disch := omega) only [zcond, nI_ltI, nI_leI, nI_eq] at h14; omega)
      · try simp (disch := omega) only [zcond, nI_ltI, nI_leI, nI_eq, zb0, Classical.not_not, Bool.not_eq_false, Bool.not_eq_true, Nat.not_lt, Nat.not_le] at h14
        refine ev_il dM_edit_17 rfl (by first | assumption | rfl) ?_
        refine ev_al dM_edit_18 rfl (by first | assumption | rfl) ?_
        refine ev_geti dM_edit_19 fM_103 rfl ?_
        rw [hT.1]
        refine ev_il dM_edit_22 rfl (by first | assumption | rfl) ?_
        first | with_reducible refine ev_subN dM_edit_23 (by omega) ?_ | refine ev_sub dM_edit_23 ?_
        refine ev_icmp (tgt := 31) dM_edit_24 (by decide) (fun h24 => ?_) (fun h24 => ?_)
        · try simp (disch := omega) only [zcond, nI_ltI, nI_leI, nI_eq, zb0, Classical.not_not, Bool.not_eq_false, Bool.not_eq_true, Nat.not_lt, Nat.not_le] at h24
          refine ev_al dM_edit_31 rfl (by first | assumption | rfl) ?_
          refine ev_geti dM_edit_32 fM_103 rfl ?_
          rw [hT.1]
          refine ev_il dM_edit_35 rfl (by first | assumption | rfl) ?_
          first | with_reducible refine ev_subN dM_edit_36 (by omega) ?_ | refine ev_sub dM_edit_36 ?_
          refine ev_al dM_edit_37 rfl (by first | assumption | rfl) ?_
          refine ev_geti dM_edit_38 fM_100 rfl ?_
          rw [hw]
          first | with_reducible refine ev_addN dM_edit_41 ?_ | refine ev_add dM_edit_41 ?_
          refine ev_const (v := nI 160) dM_edit_42 (by decide) ?_
          refine ev_icmp (tgt := 52) dM_edit_45 (by decide) (fun h45 => ?_) (fun h45 => ?_)
          · try simp (disch := omega) only [zcond, nI_ltI, nI_leI, nI_eq, zb0, Classical.not_not, Bool.not_eq_false, Bool.not_eq_true, Nat.not_lt, Nat.not_le] at h45
            refine ev_const (v := nI 0) dM_edit_52 (by decide) ?_
            refine ev_puti dM_edit_53 fM_97 fwM_thrown rfl (vp_nar_int _) rfl ?_
            refine ev_al dM_edit_56 rfl (by first | assumption | rfl) ?_
            refine ev_geti dM_edit_57 fM_97 rfl ?_
            rw [zI_s]
            refine ev_if0 (tgt := 65) dM_edit_60 (by decide) (fun h60 => ?_) (fun h60 => ?_)
            · refine ev_al dM_edit_65 rfl (by first | assumption | rfl) ?_
              refine ev_geti dM_edit_66 fM_100 rfl ?_
              rw [(z0 (by omega)).trans hw]
              refine ev_il dM_edit_69 rfl (by first | assumption | rfl) ?_
              refine ev_sub dM_edit_70 ?_
              refine ev_is dM_edit_71 rfl (Nat.le_of_ble_eq_true rfl) ?_
              refine ev_al dM_edit_72 rfl (by first | assumption | rfl) ?_
              refine ev_cV dM_edit_73 (r_keepOld (M := zI M 25 0 (nI 0)) (N := ts.length) (c := c0) hP ((z0 (by omega)).trans hk.1) (by omega) ((z0 (by omega)).trans hc0) hc02) lM_247 rec_M rfl (Nat.le_of_ble_eq_true rfl) rfl (Nat.le_of_ble_eq_true rfl) (fun z M1 hz => ?_)
              obtain ⟨rfl, hs1, ho1, hc1, hot1, hoi1⟩ := hz
              have hP1 : M1.2.1 = zP0 n b := hs1.P (M := zI M 25 0 (nI 0)) hP
              have hf1 : ∀ o i, ¬ (sKo o i ∨ (o = 25 ∧ i = 0)) → M1.1 o i = M.1 o i := fun o i h => (hs1.2 o i (fun x => h (Or.inl x))).trans (z0 (fun x => h (Or.inr x)))
              have hT1 : TxM M1 t e := ⟨(hf1 _ _ (by unfold sKo; omega)).trans hT.1, hT.2.1, fun i hi => ⟨(hf1 _ _ (by unfold sKo; omega)).trans (hT.2.2 i hi).1, (hT.2.2 i hi).2⟩⟩
              refine ev_al dM_edit_76 rfl (by first | assumption | rfl) ?_
              refine ev_il dM_edit_77 rfl (by first | assumption | rfl) ?_
              refine ev_il dM_edit_78 rfl (by first | assumption | rfl) ?_
              refine ev_cV dM_edit_79 (r_change (M := M1) (t := t) (row := row) hP1 hT1 ((hf1 _ _ (by unfold sKo; omega)).trans hw) hw40 (fun i hi => ⟨(hf1 _ _ (by unfold sKo; omega)).trans (hrow i hi).1, (hrow i hi).2⟩) hpg hfit) lM_250 rec_M rfl (Nat.le_of_ble_eq_true rfl) rfl (Nat.le_of_ble_eq_true rfl) (fun z M2 hz => ?_)
              obtain ⟨rfl, hs2, hT2, hw2⟩ := hz
              have hP2 := hs2.P hP1
              refine ev_al dM_edit_82 rfl (by first | assumption | rfl) ?_
              refine ev_cV dM_edit_83 (r_findTokens (M := M2) hP2 hT2) lM_253 rec_M rfl (Nat.le_of_ble_eq_true rfl) rfl (Nat.le_of_ble_eq_true rfl) (fun z M3 hz => ?_)
              obtain ⟨rfl, hs3, hk3⟩ := hz
              have hP3 := hs3.P hP2
              have hT3 : TxM M3 (eT t row p g w) (e - g + w) := ⟨(hs3.2 _ _ (by unfold sFM; omega)).trans hT2.1, hT2.2.1, fun i hi => ⟨(hs3.2 _ _ (by unfold sFM; omega)).trans (hT2.2.2 i hi).1, (hT2.2.2 i hi).2⟩⟩
              have hk3 := mtk_all hT3 hk3
              have hcur3 : M3.1 25 35 = nI cur := (hs3.2 _ _ (by unfold sFM; omega)).trans ((hs2.2 _ _ (by unfold sCh; omega)).trans ((hf1 _ _ (by unfold sKo; omega)).trans hcur))
              refine ev_al dM_edit_86 rfl (by first | assumption | rfl) ?_
              refine ev_cV dM_edit_87 (r_read (M := M3) hP3 hk3 hcur3 hcur2) lM_256 rec_M rfl (Nat.le_of_ble_eq_true rfl) rfl (Nat.le_of_ble_eq_true rfl) (fun z M4 hz => ?_)
              obtain ⟨rfl, hs4, hB4, hfl4⟩ := hz
              have hP4 := hs4.P hP3
              have hF4 := hF (M3.1 35, M3.1 36, M3.1 37, M3.1 38, M3.1 39)
              have hX : aRun (tMk (eT t row p g w) (lAll (eT t row p g w) (e - g + w))) (lAll (eT t row p g w) (e - g + w)).length 0 (0, []) (([], 0, 0, cur), M3.1 35, M3.1 36, M3.1 37, M3.1 38, M3.1 39) = aX (eT t row p g w) (lAll (eT t row p g w) (e - g + w)) (([], 0, 0, cur), M3.1 35, M3.1 36, M3.1 37, M3.1 38, M3.1 39) := rfl
              rw [hX] at hB4 hfl4
              generalize hXX : aX (eT t row p g w) (lAll (eT t row p g w) (e - g + w)) (([], 0, 0, cur), M3.1 35, M3.1 36, M3.1 37, M3.1 38, M3.1 39) = X at hB4 hfl4 hF4
              obtain ⟨hF0, hF1, hF2, hF3, hF5, hF6, hF7, hF8⟩ := hF4
              have hr4 : ∀ o i, ¬ sRd o i → M4.1 o i = M3.1 o i := hs4.2
              have hk4 : MTk M4 (e - g + w) (eT t row p g w) (lAll (eT t row p g w) (e - g + w)) := ⟨⟨(hr4 _ _ (by unfold sRd sAB; omega)).trans hk3.1.1, hk3.1.2.1, fun i hi => ⟨(hr4 _ _ (by unfold sRd sAB; omega)).trans (hk3.1.2.2 i hi).1, (hk3.1.2.2 i hi).2⟩⟩, ⟨(hr4 _ _ (by unfold sRd sAB; omega)).trans hk3.2.1.1, fun k q hq => ⟨(hr4 _ _ (by unfold sRd sAB; omega)).trans (hk3.2.1.2 k q hq).1, (hr4 _ _ (by unfold sRd sAB; omega)).trans (hk3.2.1.2 k q hq).2.1, (hr4 _ _ (by unfold sRd sAB; omega)).trans (hk3.2.1.2 k q hq).2.2⟩⟩, hk3.2.2⟩
              have hf4 : ∀ o i, ¬ (sRd o i ∨ sFM o i ∨ sCh o i) → M4.1 o i = M1.1 o i := fun o i h => (hr4 o i (fun x => h (Or.inl x))).trans ((hs3.2 o i (fun x => h (Or.inr (Or.inl x)))).trans (hs2.2 o i (fun x => h (Or.inr (Or.inr x)))))
              have hO4 : OTk M4 ts := ⟨(hf4 _ _ (by unfold sRd sAB sFM sCh; omega)).trans ho1, fun i hi => ⟨(hf4 _ _ (by unfold sRd sAB sFM sCh; omega)).trans ((hot1 i hi).1.trans ((z0 (by omega)).trans (hk.2 i _ (tk_at hi)).1)), (hf4 _ _ (by unfold sRd sAB sFM sCh; omega)).trans ((hot1 i hi).2.1.trans ((z0 (by omega)).trans (hk.2 i _ (tk_at hi)).2.1)), (hf4 _ _ (by unfold sRd sAB sFM sCh; omega)).trans ((hot1 i hi).2.2.trans ((z0 (by omega)).trans (hk.2 i _ (tk_at hi)).2.2))⟩⟩
              refine ev_al dM_edit_90 rfl (by first | assumption | rfl) ?_
              refine ev_il dM_edit_91 rfl (by first | assumption | rfl) ?_
              refine ev_il dM_edit_92 rfl (by first | assumption | rfl) ?_
              refine ev_il dM_edit_93 rfl (by first | assumption | rfl) ?_
              refine ev_cV dM_edit_94 (r_compareTokens (M := M4) (w := w) hP4 hk4.2.1 hk4.2.2.1 hO4 ho hw40 (by omega) (by omega)) lM_259 rec_M rfl (Nat.le_of_ble_eq_true rfl) rfl (Nat.le_of_ble_eq_true rfl) (fun z M5 hz => ?_)
              obtain ⟨rfl, hs5, him5⟩ := hz
              have hP5 := hs5.P hP4
              have hg5 : ∀ o i, o ≠ 34 → M5.1 o i = M4.1 o i := fun o i h => hs5.2 o i h
              have hC5 : M5.1 25 14 = nI X.2.2.1.2.2.1 := (hg5 _ _ (by omega)).trans hB4.2.2.2.1
              have h35 : M5.1 35 = X.2.2.2.1 := (funext fun i => hg5 _ _ (by omega)).trans hB4.2.2.2.2.2.1
              have h36 : M5.1 36 = X.2.2.2.2.1 := (funext fun i => hg5 _ _ (by omega)).trans hB4.2.2.2.2.2.2.1
              have h37 : M5.1 37 = X.2.2.2.2.2.1 := (funext fun i => hg5 _ _ (by omega)).trans hB4.2.2.2.2.2.2.2.1
              have h38 : M5.1 38 = X.2.2.2.2.2.2.1 := (funext fun i => hg5 _ _ (by omega)).trans hB4.2.2.2.2.2.2.2.2.1
              have h39 : M5.1 39 = X.2.2.2.2.2.2.2 := (funext fun i => hg5 _ _ (by omega)).trans hB4.2.2.2.2.2.2.2.2.2
              have hgi5 : M5.1 25 27 = nI gi := (hg5 _ _ (by omega)).trans ((hf4 _ _ (by unfold sRd sAB sFM sCh; omega)).trans ((hf1 _ _ (by unfold sKo; omega)).trans hgi))
              have hO5 : ∀ j, j < c0 → M5.1 42 j = nI (fi0 j) ∧ M5.1 43 j = nI (la0 j) ∧ fi0 j ≤ la0 j ∧ la0 j < 160 := fun j hj => ⟨(hg5 _ _ (by omega)).trans ((hf4 _ _ (by unfold sRd sAB sFM sCh; omega)).trans ((hoi1 j hj).1.trans ((z0 (by omega)).trans (hO j hj).1))), (hg5 _ _ (by omega)).trans ((hf4 _ _ (by unfold sRd sAB sFM sCh; omega)).trans ((hoi1 j hj).2.1.trans ((z0 (by omega)).trans (hO j hj).2.1))), (hO j hj).2.2.1, by have := (hO j hj).2.2.2; omega⟩
              have hc5 : M5.1 25 23 = nI c0 := (hg5 _ _ (by omega)).trans ((hf4 _ _ (by unfold sRd sAB sFM sCh; omega)).trans hc1)
              have hn5 : ∀ j, j < c0 → M5.1 44 j = M.1 40 j := fun j hj => (hg5 _ _ (by omega)).trans ((hf4 _ _ (by unfold sRd sAB sFM sCh; omega)).trans ((hoi1 j hj).2.2.trans (z0 (by omega))))
              refine ev_is dM_edit_97 rfl (Nat.le_of_ble_eq_true rfl) ?_
              refine ev_al dM_edit_99 rfl (by first | assumption | rfl) ?_
              refine ev_cV dM_edit_100 (r_giveNumbers (M := M5) (c1 := X.2.2.1.2.2.1) (gi := gi) (oi := (fun k => mOf (fun j => imV p g w (lAll (eT t row p g w) (e - g + w)) (tk ts j)) fi0 la0 (fi k) (la k) c0 0)) hP5 hC5 hF0 hgi5 (fun d x k hk2 => ?_) (fun k hk2 => ?_)) lM_262 rec_M rfl (Nat.le_of_ble_eq_true rfl) rfl (Nat.le_of_ble_eq_true rfl) (fun z M6 hz => ?_)
              · have ho160 := hF6 k hk2
                have hlen' := hk4.2.2.1.2.1
                have h1 := r_oldOf (M := mG M5 x) (Lx := Lx) (xs := xs) (d := d) (k := k) (a := fi k) (z := la k) (c0 := c0) (fi0 := fi0) (la0 := la0) hP5 (by omega) ((mG_o (by omega) (by omega)).trans ((congrFun h35 k).trans (hF1 k hk2))) ((mG_o (by omega) (by omega)).trans ((congrFun h36 k).trans (hF2 k hk2))) (by omega) ((mG_0 (by omega) (by omega)).trans hc5) hc02 (fun j hj => ⟨(mG_o (by omega) (by omega)).trans (hO5 j hj).1, (mG_o (by omega) (by omega)).trans (hO5 j hj).2.1, (hO5 j hj).2.2⟩)
                rw [mOf_cg (N := ts.length) (im' := fun j => imV p g w (lAll (eT t row p g w) (e - g + w)) (tk ts j)) (fun j hj => by rw [mG_o (by omega) (by omega)]; exact him5 j hj) (fun j hj => ⟨(hO j hj).2.2.1, (hO j hj).2.2.2⟩) c0 0 (by omega)] at h1
                exact h1
              · rcases mOf_in (im := fun j => imV p g w (lAll (eT t row p g w) (e - g + w)) (tk ts j)) (fi0 := fi0) (la0 := la0) (a := fi k) (z := la k) c0 0 with h | ⟨i, h1, h2⟩
                · exact Or.inl h
                · exact Or.inr ⟨i, by omega, h2⟩
              obtain ⟨rfl, hM6⟩ := hz
              have hg6 : ∀ o i, o ≠ 40 → o ≠ 25 → M6.1 o i = M5.1 o i := fun o i h1 h2 => by rw [hM6]; exact mG_o h1 h2
              have hg6' : ∀ i, i ≠ 28 → i ≠ 27 → M6.1 25 i = M5.1 25 i := fun i h1 h2 => by rw [hM6]; exact mG_0 h1 h2
              have hP6 : M6.2.1 = zP0 n b := by rw [hM6]; exact hP5
              have hk6 : MTk M6 (e - g + w) (eT t row p g w) (lAll (eT t row p g w) (e - g + w)) := ⟨⟨(hg6' _ (by omega) (by omega)).trans ((hg5 _ _ (by omega)).trans hk4.1.1), hk4.1.2.1, fun i hi => ⟨(hg6 _ _ (by omega) (by omega)).trans ((hg5 _ _ (by omega)).trans (hk4.1.2.2 i hi).1), (hk4.1.2.2 i hi).2⟩⟩, ⟨(hg6' _ (by omega) (by omega)).trans ((hg5 _ _ (by omega)).trans hk4.2.1.1), fun k q hq => ⟨(hg6 _ _ (by omega) (by omega)).trans ((hg5 _ _ (by omega)).trans (hk4.2.1.2 k q hq).1), (hg6 _ _ (by omega) (by omega)).trans ((hg5 _ _ (by omega)).trans (hk4.2.1.2 k q hq).2.1), (hg6 _ _ (by omega) (by omega)).trans ((hg5 _ _ (by omega)).trans (hk4.2.1.2 k q hq).2.2)⟩⟩, hk4.2.2⟩
              have j35 : M6.1 35 = X.2.2.2.1 := (funext fun i => hg6 _ _ (by omega) (by omega)).trans h35
              have j36 : M6.1 36 = X.2.2.2.2.1 := (funext fun i => hg6 _ _ (by omega) (by omega)).trans h36
              have j37 : M6.1 37 = X.2.2.2.2.2.1 := (funext fun i => hg6 _ _ (by omega) (by omega)).trans h37
              have j38 : M6.1 38 = X.2.2.2.2.2.2.1 := (funext fun i => hg6 _ _ (by omega) (by omega)).trans h38
              have j39 : M6.1 39 = X.2.2.2.2.2.2.2 := (funext fun i => hg6 _ _ (by omega) (by omega)).trans h39
              refine ev_al dM_edit_103 rfl (by first | assumption | rfl) ?_
              refine ev_cV dM_edit_104 (r_findValues (M0 := M6) (e := (e - g + w)) (t := (eT t row p g w)) (ts := (lAll (eT t row p g w) (e - g + w))) (C := X.2.2.1.2.2.1) (fi := fi) (la := la) (br := br) (df := df) hP6 hk6 ((hg6' _ (by omega) (by omega)).trans hC5) hF0 (fun k hk2 => (congrFun j35 k).trans (hF1 k hk2)) (fun k hk2 => (congrFun j36 k).trans (hF2 k hk2)) (fun k hk2 => (congrFun j38 k).trans (hF3 k hk2)) (fun k hk2 => (congrFun j39 k).trans (hF5 k hk2)) hF6 hF7 (fun k hk2 hb va hva => hF8 (M6.1 41) k hk2 hb va (by rw [hva, j35, j36, j37]))) lM_265 rec_M rfl (Nat.le_of_ble_eq_true rfl) rfl (Nat.le_of_ble_eq_true rfl) (fun z M7 hz => ?_)
              obtain ⟨rfl, hs7, hv7⟩ := hz
              rw [j35, j36, j37] at hv7
              have hP7 := hs7.P hP6
              have hg7 : ∀ o i, ¬ (o = 40 ∨ o = 25 ∨ o = 34 ∨ sFv o i) → M7.1 o i = M4.1 o i := fun o i h => (hs7.2 o i (fun x => h (Or.inr (Or.inr (Or.inr x))))).trans ((hg6 o i (by omega) (by omega)).trans (hg5 o i (by omega)))
              have hg7' : ∀ i, i ≠ 28 → i ≠ 27 → i ≠ 36 → M7.1 25 i = M4.1 25 i := fun i h1 h2 h3 => (hs7.2 _ _ (by unfold sFv sE; omega)).trans ((hg6' i h1 h2).trans (hg5 _ _ (by omega)))
              refine ev_al dM_edit_107 rfl (by first | assumption | rfl) ?_
              refine ev_geti dM_edit_108 fM_106 rfl ?_
              rw [(hg7' _ (by omega) (by omega) (by omega)).trans hk4.2.1.1]
              refine ev_il dM_edit_111 rfl (by first | assumption | rfl) ?_
              refine ev_sub dM_edit_113 ?_
              refine ev_ret dM_edit_114 rfl rfl ?_
              refine ⟨rfl, (M3.1 35, M3.1 36, M3.1 37, M3.1 38, M3.1 39), M5.1 44, M5.1 40, M6.1 41, hn5, ?_⟩
              rw [hXX]
              refine ⟨hP7, ?_, ?_, ?_, ?_, ?_, ?_, ?_, ?_, ?_, ?_, ?_, ?_, ?_, ?_, hv7, ?_⟩
              · rw [hs7.1, hM6]; show M5.2.2 = M.2.2; rw [hs5.1, hs4.1, hs3.1, hs2.1, hs1.1]; rfl
              · exact (hg7' _ (by omega) (by omega) (by omega)).trans ((hf4 _ _ (by unfold sRd sAB sFM sCh; omega)).trans ((hs1.2 _ _ (by unfold sKo; omega)).trans (zI_s _ _ _ _)))
              · exact ⟨(hg7' _ (by omega) (by omega) (by omega)).trans hk4.1.1, hk4.1.2.1, fun i hi => ⟨(hg7 _ _ (by unfold sFv sE; omega)).trans (hk4.1.2.2 i hi).1, (hk4.1.2.2 i hi).2⟩⟩
              · exact ⟨(hg7' _ (by omega) (by omega) (by omega)).trans hk4.2.1.1, fun k q hq => ⟨(hg7 _ _ (by unfold sFv sE; omega)).trans (hk4.2.1.2 k q hq).1, (hg7 _ _ (by unfold sFv sE; omega)).trans (hk4.2.1.2 k q hq).2.1, (hg7 _ _ (by unfold sFv sE; omega)).trans (hk4.2.1.2 k q hq).2.2⟩⟩
              · exact (hg7' _ (by omega) (by omega) (by omega)).trans ((hr4 _ _ (by unfold sRd sAB; omega)).trans ((hs3.2 _ _ (by unfold sFM; omega)).trans hw2))
              · exact (hg7' _ (by omega) (by omega) (by omega)).trans hB4.2.2.2.1
              · exact (hg7' _ (by omega) (by omega) (by omega)).trans hB4.2.2.2.2.1
              · exact (funext fun i => hs7.2 _ _ (by unfold sFv sE; omega)).trans j35
              · exact (funext fun i => hs7.2 _ _ (by unfold sFv sE; omega)).trans j36
              · exact (funext fun i => hs7.2 _ _ (by unfold sFv sE; omega)).trans j37
              · exact (hg7' _ (by omega) (by omega) (by omega)).trans hfl4
              · rw [hs7.2 _ _ (by unfold sFv sE; omega), hM6]; exact mG_5
              · rw [hs7.2 _ _ (by unfold sFv sE; omega), hM6]; exact mG_6
              · rw [show M7.1 40 = M6.1 40 from funext fun i => hs7.2 _ _ (by unfold sFv sE; omega), hM6]; exact funext fun i => mG_u
              · intro o i ho
                exact (hg7 o i (by unfold sFv sE; omega)).trans ((hf4 o i (by unfold sRd sAB sFM sCh; omega)).trans (hf1 o i (by unfold sKo; omega)))
            · exact absurd (show nI 0 ≤ nI 0 by decide) h60
          · first | omega | (simp (disch := omega) only [zcond, nI_ltI, nI_leI, nI_eq] at h45; omega)
        · first | omega | (simp (disch := omega) only [zcond, nI_ltI, nI_leI, nI_eq] at h24; omega)
set_option maxRecDepth 100000 in
set_option maxHeartbeats 4000000 in
theorem r_edit_1 {e : Nat} {x y : Int32} (hP : M.2.1 = zP0 n b) (he : M.1 25 1 = nI e) (h : x < nI 0 ∨ nI e < x ∨ y < nI 0 ∨ nI e - x < y) : Ct Lx xs d mM_edit [.ref 25, .int x, .int y] M (fun q M' => q = some (nI 0) ∧ M' = zI M 25 0 (nI 1)) := by
  unfold Ct
  refine ev_al dM_edit_0 rfl (by first | assumption | rfl) ?_
  refine ev_il dM_edit_1 rfl (by first | assumption | rfl) ?_
  refine ev_if0 (tgt := 27) dM_edit_2 (by decide) (fun h2 => ?_) (fun h2 => ?_)
  · refine ev_const (v := nI 1) dM_edit_27 (by decide) ?_
    refine ev_goto (tgt := 53) dM_edit_28 (by decide) ?_
    refine ev_puti dM_edit_53 fM_97 fwM_thrown rfl (vp_nar_int _) rfl ?_
    refine ev_al dM_edit_56 rfl (by first | assumption | rfl) ?_
    refine ev_geti dM_edit_57 fM_97 rfl ?_
    rw [zI_s]
    refine ev_if0 (tgt := 65) dM_edit_60 (by decide) (fun h60 => ?_) (fun h60 => ?_)
    · exact absurd h60 (show ¬ nI 1 ≤ nI 0 by decide)
    · refine ev_const (v := nI 0) dM_edit_63 (by decide) ?_
      refine ev_ret dM_edit_64 rfl rfl ?_
      exact ⟨rfl, rfl⟩
  · refine ev_il dM_edit_5 rfl (by first | assumption | rfl) ?_
    refine ev_al dM_edit_6 rfl (by first | assumption | rfl) ?_
    refine ev_geti dM_edit_7 fM_103 rfl ?_
    rw [he]
    refine ev_icmp (tgt := 27) dM_edit_10 (by decide) (fun h10 => ?_) (fun h10 => ?_)
    · refine ev_const (v := nI 1) dM_edit_27 (by decide) ?_
      refine ev_goto (tgt := 53) dM_edit_28 (by decide) ?_
      refine ev_puti dM_edit_53 fM_97 fwM_thrown rfl (vp_nar_int _) rfl ?_
      refine ev_al dM_edit_56 rfl (by first | assumption | rfl) ?_
      refine ev_geti dM_edit_57 fM_97 rfl ?_
      rw [zI_s]
      refine ev_if0 (tgt := 65) dM_edit_60 (by decide) (fun h60 => ?_) (fun h60 => ?_)
      · exact absurd h60 (show ¬ nI 1 ≤ nI 0 by decide)
      · refine ev_const (v := nI 0) dM_edit_63 (by decide) ?_
        refine ev_ret dM_edit_64 rfl rfl ?_
        exact ⟨rfl, rfl⟩
    · refine ev_il dM_edit_13 rfl (by first | assumption | rfl) ?_
      refine ev_if0 (tgt := 27) dM_edit_14 (by decide) (fun h14 => ?_) (fun h14 => ?_)
      · refine ev_const (v := nI 1) dM_edit_27 (by decide) ?_
        refine ev_goto (tgt := 53) dM_edit_28 (by decide) ?_
        refine ev_puti dM_edit_53 fM_97 fwM_thrown rfl (vp_nar_int _) rfl ?_
        refine ev_al dM_edit_56 rfl (by first | assumption | rfl) ?_
        refine ev_geti dM_edit_57 fM_97 rfl ?_
        rw [zI_s]
        refine ev_if0 (tgt := 65) dM_edit_60 (by decide) (fun h60 => ?_) (fun h60 => ?_)
        · exact absurd h60 (show ¬ nI 1 ≤ nI 0 by decide)
        · refine ev_const (v := nI 0) dM_edit_63 (by decide) ?_
          refine ev_ret dM_edit_64 rfl rfl ?_
          exact ⟨rfl, rfl⟩
      · refine ev_il dM_edit_17 rfl (by first | assumption | rfl) ?_
        refine ev_al dM_edit_18 rfl (by first | assumption | rfl) ?_
        refine ev_geti dM_edit_19 fM_103 rfl ?_
        rw [he]
        refine ev_il dM_edit_22 rfl (by first | assumption | rfl) ?_
        refine ev_sub dM_edit_23 ?_
        refine ev_icmp (tgt := 31) dM_edit_24 (by decide) (fun h24 => ?_) (fun h24 => ?_)
        · exact (h.elim h2 (fun h => h.elim h10 (fun h => h.elim h14 (fun h => Int32.not_lt.mpr h24 h)))).elim
        · refine ev_const (v := nI 1) dM_edit_27 (by decide) ?_
          refine ev_goto (tgt := 53) dM_edit_28 (by decide) ?_
          refine ev_puti dM_edit_53 fM_97 fwM_thrown rfl (vp_nar_int _) rfl ?_
          refine ev_al dM_edit_56 rfl (by first | assumption | rfl) ?_
          refine ev_geti dM_edit_57 fM_97 rfl ?_
          rw [zI_s]
          refine ev_if0 (tgt := 65) dM_edit_60 (by decide) (fun h60 => ?_) (fun h60 => ?_)
          · exact absurd h60 (show ¬ nI 1 ≤ nI 0 by decide)
          · refine ev_const (v := nI 0) dM_edit_63 (by decide) ?_
            refine ev_ret dM_edit_64 rfl rfl ?_
            exact ⟨rfl, rfl⟩
set_option maxRecDepth 100000 in
set_option maxHeartbeats 4000000 in
theorem r_edit_2 {e p g w : Nat} (hP : M.2.1 = zP0 n b) (he : M.1 25 1 = nI e) (he2 : e ≤ 160) (hw : M.1 25 3 = nI w) (hw40 : w ≤ 40) (hpg : p + g ≤ e) (hbig : 160 < e - g + w) : Ct Lx xs d mM_edit [.ref 25, .int (nI p), .int (nI g)] M (fun q M' => q = some (nI 0) ∧ M' = zI M 25 0 (nI 2)) := by
  unfold Ct
  refine ev_al dM_edit_0 rfl (by first | assumption | rfl) ?_
  refine ev_il dM_edit_1 rfl (by first | assumption | rfl) ?_
  refine ev_if0 (tgt := 27) dM_edit_2 (by decide) (fun h2 => ?_) (fun h2 => ?_)
  · first | omega | (simp (disch := omega) only [zcond, nI_ltI, nI_leI, nI_eq] at h2; omega)
  · try simp (disch := omega) only [zcond, nI_ltI, nI_leI, nI_eq, zb0, Classical.not_not, Bool.not_eq_false, Bool.not_eq_true, Nat.not_lt, Nat.not_le] at h2
    refine ev_il dM_edit_5 rfl (by first | assumption | rfl) ?_
    refine ev_al dM_edit_6 rfl (by first | assumption | rfl) ?_
    refine ev_geti dM_edit_7 fM_103 rfl ?_
    rw [he]
    refine ev_icmp (tgt := 27) dM_edit_10 (by decide) (fun h10 => ?_) (fun h10 => ?_)
    · first | omega | (simp (disch := omega) only [zcond, nI_ltI, nI_leI, nI_eq] at h10; omega)
    · try simp (disch := omega) only [zcond, nI_ltI, nI_leI, nI_eq, zb0, Classical.not_not, Bool.not_eq_false, Bool.not_eq_true, Nat.not_lt, Nat.not_le] at h10
      refine ev_il dM_edit_13 rfl (by first | assumption | rfl) ?_
      refine ev_if0 (tgt := 27) dM_edit_14 (by decide) (fun h14 => ?_) (fun h14 => ?_)
      · first | omega | (simp (disch := omega) only [zcond, nI_ltI, nI_leI, nI_eq] at h14; omega)
      · try simp (disch := omega) only [zcond, nI_ltI, nI_leI, nI_eq, zb0, Classical.not_not, Bool.not_eq_false, Bool.not_eq_true, Nat.not_lt, Nat.not_le] at h14
        refine ev_il dM_edit_17 rfl (by first | assumption | rfl) ?_
        refine ev_al dM_edit_18 rfl (by first | assumption | rfl) ?_
        refine ev_geti dM_edit_19 fM_103 rfl ?_
        rw [he]
        refine ev_il dM_edit_22 rfl (by first | assumption | rfl) ?_
        first | with_reducible refine ev_subN dM_edit_23 (by omega) ?_ | refine ev_sub dM_edit_23 ?_
        refine ev_icmp (tgt := 31) dM_edit_24 (by decide) (fun h24 => ?_) (fun h24 => ?_)
        · try simp (disch := omega) only [zcond, nI_ltI, nI_leI, nI_eq, zb0, Classical.not_not, Bool.not_eq_false, Bool.not_eq_true, Nat.not_lt, Nat.not_le] at h24
          refine ev_al dM_edit_31 rfl (by first | assumption | rfl) ?_
          refine ev_geti dM_edit_32 fM_103 rfl ?_
          rw [he]
          refine ev_il dM_edit_35 rfl (by first | assumption | rfl) ?_
          first | with_reducible refine ev_subN dM_edit_36 (by omega) ?_ | refine ev_sub dM_edit_36 ?_
          refine ev_al dM_edit_37 rfl (by first | assumption | rfl) ?_
          refine ev_geti dM_edit_38 fM_100 rfl ?_
          rw [hw]
          first | with_reducible refine ev_addN dM_edit_41 ?_ | refine ev_add dM_edit_41 ?_
          refine ev_const (v := nI 160) dM_edit_42 (by decide) ?_
          refine ev_icmp (tgt := 52) dM_edit_45 (by decide) (fun h45 => ?_) (fun h45 => ?_)
          · first | omega | (simp (disch := omega) only [zcond, nI_ltI, nI_leI, nI_eq] at h45; omega)
          · try simp (disch := omega) only [zcond, nI_ltI, nI_leI, nI_eq, zb0, Classical.not_not, Bool.not_eq_false, Bool.not_eq_true, Nat.not_lt, Nat.not_le] at h45
            refine ev_const (v := nI 2) dM_edit_48 (by decide) ?_
            refine ev_goto (tgt := 53) dM_edit_49 (by decide) ?_
            refine ev_puti dM_edit_53 fM_97 fwM_thrown rfl (vp_nar_int _) rfl ?_
            refine ev_al dM_edit_56 rfl (by first | assumption | rfl) ?_
            refine ev_geti dM_edit_57 fM_97 rfl ?_
            rw [zI_s]
            refine ev_if0 (tgt := 65) dM_edit_60 (by decide) (fun h60 => ?_) (fun h60 => ?_)
            · exact absurd h60 (show ¬ nI 2 ≤ nI 0 by decide)
            · refine ev_const (v := nI 0) dM_edit_63 (by decide) ?_
              refine ev_ret dM_edit_64 rfl rfl ?_
              exact ⟨rfl, rfl⟩
        · first | omega | (simp (disch := omega) only [zcond, nI_ltI, nI_leI, nI_eq] at h24; omega)
end
