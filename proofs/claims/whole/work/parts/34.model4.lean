/- the reference: a token's reading (rows laid by program) -/
def rQ (M : zM) (res : Option (Nat × List Nat)) : Option Int32 → zM → Prop := fun z M' => zSame sAQ M M' ∧ match res with
  | some x => z = some (nI 1) ∧ AQ M' x
  | none => z = some (nI 0)
def rB (M : zM) (B : aB) (res : Option ((Nat × List Nat) × aB)) : Option Int32 → zM → Prop := fun z M' => zSame sAB M M' ∧ match res with
  | some x => z = some (nI 1) ∧ AQ M' x.1 ∧ AB M' x.2
  | none => z = some (nI 0) ∧ AB M' B
theorem rQ_y {M M' : zM} {x : Nat × List Nat} {res : Option (Nat × List Nat)} (hs : zSame sAQ M M') (hA : AQ M' x) (h : res = some x) : rQ M res (some (nI 1)) M' := by subst h; exact ⟨hs, rfl, hA⟩
theorem rQ_n {M M' : zM} {res : Option (Nat × List Nat)} (hs : zSame sAQ M M') (h : res = none) : rQ M res (some (nI 0)) M' := by subst h; exact ⟨hs, rfl⟩
theorem rB_y {M M' : zM} {B : aB} {x : (Nat × List Nat) × aB} {res : Option ((Nat × List Nat) × aB)} (hs : zSame sAB M M') (hA : AQ M' x.1) (hB : AB M' x.2) (h : res = some x) : rB M B res (some (nI 1)) M' := by subst h; exact ⟨hs, rfl, hA, hB⟩
theorem rB_n {M M' : zM} {B : aB} {res : Option ((Nat × List Nat) × aB)} (hs : zSame sAB M M') (hB : AB M' B) (h : res = none) : rB M B res (some (nI 0)) M' := by subst h; exact ⟨hs, rfl, hB⟩
def aBeg (B : aB) (k br : Nat) : aB := ((B.1.1, B.1.2.1 + 1, B.1.2.2.1, B.1.2.1), upd B.2.1 B.1.2.1 (nI k), upd B.2.2.1 B.1.2.1 (-1), upd B.2.2.2.1 B.1.2.1 (nI B.1.1.length), upd B.2.2.2.2.1 B.1.2.1 (nI br), upd B.2.2.2.2.2 B.1.2.1 (nI 0))
def aFin (B : aB) (l j k : Nat) : aB := ((B.1.1, B.1.2.1, if l = 0 then B.1.2.1 else B.1.2.2.1, B.1.2.2.2), B.2.1, upd B.2.2.1 j (nI k), B.2.2.2)
def aBl (B : aB) (bl : List Nat) : aB := ((bl, B.1.2), B.2)
def aDf (B : aB) : aB := (B.1, B.2.1, B.2.2.1, B.2.2.2.1, B.2.2.2.2.1, upd B.2.2.2.2.2 B.1.2.2.2 (nI 1))
section
variable {Lx : Nat} {xs : Nat → Int32} {d : Nat} {M : zM} {n b : Nat}
theorem tMk_kind {t : Nat → Nat} {ts : List (Nat × Nat × Nat)} {k j m : Nat} (hj : (j = 0 ∧ m = 97) ∨ (j = 1 ∧ m = 48) ∨ (j = 2 ∧ m = 34)) (hc : (tk ts k).2.2 < 5) (hs : (tk ts k).2.2 = 3 → lSig (t (tk ts k).1) = true) : (tk ts k).2.2 = j ↔ tMk t ts k = m := lMk_kind hj hc hs
theorem zI_fn {M : zM} {o k : Nat} {x : Int32} : (zI M o k x).1 o = upd (M.1 o) k x := by simp [zI]
theorem zI_fo {M : zM} {o k a : Nat} {x : Int32} (h : a ≠ o) : (zI M o k x).1 a = M.1 a := by simp [zI, h]
theorem AB.st {B : aB} {x : Int32} (h : AB M B) : AB (zI M 25 32 x) B :=
  ((zSame.rf sAQ M).I (Or.inl ⟨rfl, Or.inr rfl⟩)).AB h
theorem AB.op {B : aB} {x : Int32} (h : AB M B) : AB (zI M 25 30 x) B :=
  ((zSame.rf sAQ M).I (Or.inl ⟨rfl, Or.inl rfl⟩)).AB h
theorem AB.beg {B : aB} {k br : Nat} (h : AB M B) : AB (zI (zI (zI (zI (zI (zI (zI M 35 B.1.2.1 (nI k)) 36 B.1.2.1 (-1)) 37 B.1.2.1 (nI B.1.1.length)) 38 B.1.2.1 (nI br)) 39 B.1.2.1 (nI 0)) 25 35 (nI B.1.2.1)) 25 15 (nI (B.1.2.1 + 1))) (aBeg B k br) := by
  obtain ⟨h1, h2, h3, h4, h5, h6, h7, h8, h9, h10⟩ := h
  refine ⟨?_, fun i hi => ?_, zI_s _ _ _ _, ?_, ?_, ?_, ?_, ?_, ?_, ?_⟩
  · simp only [zI_at]; simpa [aBeg] using h1
  · simp only [zI_at]; simpa [aBeg] using h2 i hi
  · simp only [zI_at]; simpa [aBeg] using h4
  · simp only [zI_at]; simp [aBeg]
  · simp [zI_fn, zI_fo, aBeg, h6]
  · simp [zI_fn, zI_fo, aBeg, h7]
  · simp [zI_fn, zI_fo, aBeg, h8]
  · simp [zI_fn, zI_fo, aBeg, h9]
  · simp [zI_fn, zI_fo, aBeg, h10]
theorem AB.fin {B : aB} {l j k : Nat} (h : AB M B) : AB (zI (zI (zI M 36 j (nI k)) 25 32 (nI 0)) 25 14 (nI (if l = 0 then B.1.2.1 else B.1.2.2.1))) (aFin B l j k) := by
  obtain ⟨h1, h2, h3, h4, h5, h6, h7, h8, h9, h10⟩ := h
  refine ⟨?_, fun i hi => ?_, ?_, zI_s _ _ _ _, ?_, ?_, ?_, ?_, ?_, ?_⟩
  · simp only [zI_at]; simpa [aFin] using h1
  · simp only [zI_at]; simpa [aFin] using h2 i hi
  · simp only [zI_at]; simpa [aFin] using h3
  · simp only [zI_at]; simpa [aFin] using h5
  · simp [zI_fo, aFin, h6]
  · simp [zI_fn, zI_fo, aFin, h7]
  · simp [zI_fo, aFin, h8]
  · simp [zI_fo, aFin, h9]
  · simp [zI_fo, aFin, h10]
theorem AB.df {B : aB} (h : AB M B) : AB (zI M 39 B.1.2.2.2 (nI 1)) (aDf B) := by
  obtain ⟨h1, h2, h3, h4, h5, h6, h7, h8, h9, h10⟩ := h
  refine ⟨?_, fun i hi => ?_, ?_, ?_, ?_, ?_, ?_, ?_, ?_, ?_⟩
  · simp only [zI_at]; simpa [aDf] using h1
  · simp only [zI_at]; simpa [aDf] using h2 i hi
  · simp only [zI_at]; simpa [aDf] using h3
  · simp only [zI_at]; simpa [aDf] using h4
  · simp only [zI_at]; simpa [aDf] using h5
  · simp [zI_fo, aDf, h6]
  · simp [zI_fo, aDf, h7]
  · simp [zI_fo, aDf, h8]
  · simp [zI_fo, aDf, h9]
  · simp [zI_fn, aDf, h10]
theorem AB.bpush {B : aB} {x : Nat} (h : AB M B) : AB (zI (zI M 46 B.1.1.length (nI x)) 25 33 (nI (B.1.1.length + 1))) (aBl B (x :: B.1.1)) := by
  obtain ⟨h1, h2, h3, h4, h5, h6, h7, h8, h9, h10⟩ := h
  refine ⟨zI_s _ _ _ _, fun i hi => ?_, ?_, ?_, ?_, ?_, ?_, ?_, ?_, ?_⟩
  · have hi : i < B.1.1.length + 1 := hi
    rw [zI_o (by omega)]
    by_cases hil : i = B.1.1.length
    · subst hil; rw [zI_s]; show nI x = nI ((x :: B.1.1).reverse.getD B.1.1.length 0); rw [rev_last]
    · rw [zI_k hil, h2 i (by omega)]; show _ = nI ((x :: B.1.1).reverse.getD i 0); rw [rev_cons (by omega)]
  · simp only [zI_at]; simpa [aBl] using h3
  · simp only [zI_at]; simpa [aBl] using h4
  · simp only [zI_at]; simpa [aBl] using h5
  · simp [zI_fo, aBl, h6]
  · simp [zI_fo, aBl, h7]
  · simp [zI_fo, aBl, h8]
  · simp [zI_fo, aBl, h9]
  · simp [zI_fo, aBl, h10]
theorem AB.bpop {B : aB} {x : Nat} {bl : List Nat} (h : AB M B) (hb : B.1.1 = x :: bl) : AB (zI M 25 33 (nI bl.length)) (aBl B bl) ∧ M.1 46 bl.length = nI x := by
  obtain ⟨h1, h2, h3, h4, h5, h6, h7, h8, h9, h10⟩ := h
  rw [hb] at h1 h2
  refine ⟨⟨zI_s _ _ _ _, fun i hi => ?_, ?_, ?_, ?_, ?_, ?_, ?_, ?_, ?_⟩, ?_⟩
  · have hi : i < bl.length := hi
    rw [zI_o (by omega), h2 i (by show i < bl.length + 1; omega)]
    show nI ((x :: bl).reverse.getD i 0) = nI (bl.reverse.getD i 0)
    rw [rev_cons hi]
  · simp only [zI_at]; simpa [aBl] using h3
  · simp only [zI_at]; simpa [aBl] using h4
  · simp only [zI_at]; simpa [aBl] using h5
  · simp [zI_fo, aBl, h6]
  · simp [zI_fo, aBl, h7]
  · simp [zI_fo, aBl, h8]
  · simp [zI_fo, aBl, h9]
  · simp [zI_fo, aBl, h10]
  · rw [h2 bl.length (Nat.lt_succ_self _)]
    show nI ((x :: bl).reverse.getD bl.length 0) = nI x
    rw [rev_last]
set_option maxRecDepth 100000 in
set_option maxHeartbeats 4000000 in
theorem r_readFactor {e k : Nat} {t : Nat → Nat} {ts : List (Nat × Nat × Nat)} {q : Nat × List Nat} (hP : M.2.1 = zP0 n b) (hk : MTk M e t ts) (hk2 : k < ts.length) (hq : AQ M q) : Ct Lx xs (d + 2) mM_readFactor [.ref 25, .int (nI k)] M (rQ M (aFac (tMk t ts k) q.2)) := by
  unfold Ct
  have he := hk.1.2.1
  have hlen := hk.2.2.1.2.1
  obtain ⟨hq1, hq2, hq3⟩ := hk.2.1.2 k _ (tk_at hk2)
  have hkd : (tk ts k).2.2 < 5 := by have := hk.2.2.1.2.2.1 k _ (tk_at hk2); omega
  have hsg := hk.2.2.2 k hk2
  refine ev_al dM_readFactor_0 rfl (by first | assumption | rfl) ?_
  refine ev_getrP dM_readFactor_1 fM_23 rfl (zq (q := 30) hP rfl) ?_
  refine ev_il dM_readFactor_4 rfl (by first | assumption | rfl) ?_
  refine ev_aldN dM_readFactor_5 rfl rfl (by omega) ?_
  rw [hq3]
  refine ev_const (v := nI 1) dM_readFactor_6 (by decide) ?_
  refine ev_icmp (tgt := 20) dM_readFactor_7 (by decide) (fun h7 => ?_) (fun h7 => ?_)
  · simp (disch := omega) only [zcond, nI_eq, Classical.not_not] at h7
    rw [tMk_kind (m := 48) (by omega) hkd hsg] at h7
    refine ev_al dM_readFactor_20 rfl (by first | assumption | rfl) ?_
    refine ev_cV dM_readFactor_21 (r_whole hP hq) lM_165 rec_M rfl (Nat.le_of_ble_eq_true rfl) rfl (Nat.le_of_ble_eq_true rfl) (fun z M1 hz => ?_)
    obtain ⟨rfl, hs1, hA1⟩ := hz
    refine ev_const (v := nI 1) dM_readFactor_24 (by decide) ?_
    refine ev_ret dM_readFactor_25 rfl rfl ?_
    refine rQ_y hs1 hA1 ?_
    unfold aFac
    first | rw [if_pos (Or.inl h7)] | rw [if_pos (Or.inr h17)]
  · simp (disch := omega) only [zcond, nI_eq, Classical.not_not] at h7
    rw [tMk_kind (m := 48) (by omega) hkd hsg] at h7
    refine ev_al dM_readFactor_10 rfl (by first | assumption | rfl) ?_
    refine ev_getrP dM_readFactor_11 fM_23 rfl (zq (q := 30) hP rfl) ?_
    refine ev_il dM_readFactor_14 rfl (by first | assumption | rfl) ?_
    refine ev_aldN dM_readFactor_15 rfl rfl (by omega) ?_
    rw [hq3]
    refine ev_const (v := nI 2) dM_readFactor_16 (by decide) ?_
    refine ev_icmp (tgt := 26) dM_readFactor_17 (by decide) (fun h17 => ?_) (fun h17 => ?_)
    · simp (disch := omega) only [zcond, nI_eq, Classical.not_not] at h17
      rw [tMk_kind (m := 34) (by omega) hkd hsg] at h17
      refine ev_al dM_readFactor_26 rfl (by first | assumption | rfl) ?_
      refine ev_getrP dM_readFactor_27 fM_23 rfl (zq (q := 30) hP rfl) ?_
      refine ev_il dM_readFactor_30 rfl (by first | assumption | rfl) ?_
      refine ev_aldN dM_readFactor_31 rfl rfl (by omega) ?_
      rw [hq3]
      refine ev_if0 (tgt := 42) dM_readFactor_32 (by decide) (fun h32 => ?_) (fun h32 => ?_)
      · simp (disch := omega) only [zcond, nI_eq, Classical.not_not] at h32
        rw [tMk_kind (m := 97) (by omega) hkd hsg] at h32
        refine ev_al dM_readFactor_42 rfl (by first | assumption | rfl) ?_
        refine ev_const (v := nI 2) dM_readFactor_43 (by decide) ?_
        refine ev_puti dM_readFactor_44 fM_134 fwM_state rfl (vp_nar_int _) rfl ?_
        refine ev_al dM_readFactor_47 rfl (by first | assumption | rfl) ?_
        refine ev_il dM_readFactor_48 rfl (by first | assumption | rfl) ?_
        refine ev_const (v := nI 40) dM_readFactor_49 (by decide) ?_
        refine ev_pV dM_readFactor_51 (r_is (M := (zI M 25 32 (nI 2))) hP (zSame.MTk ((zSame.rf sAQ M).I (Or.inl ⟨rfl, Or.inr rfl⟩)).up hk) hk2 (by decide)) lM_153 rec_M rfl (Nat.le_of_ble_eq_true rfl) rfl (Nat.le_of_ble_eq_true rfl) ?_
        refine ev_if0 (tgt := 65) dM_readFactor_54 (by decide) (fun h54 => ?_) (fun h54 => ?_)
        · try simp (disch := omega) only [zcond, nI_ltI, nI_leI, nI_eq, zb0, Classical.not_not, Bool.not_eq_false, Bool.not_eq_true, Nat.not_lt, Nat.not_le] at h54
          try simp only [decide_eq_true_eq, decide_eq_false_iff_not] at h54
          refine ev_al dM_readFactor_65 rfl (by first | assumption | rfl) ?_
          refine ev_il dM_readFactor_66 rfl (by first | assumption | rfl) ?_
          refine ev_const (v := nI 45) dM_readFactor_67 (by decide) ?_
          refine ev_pV dM_readFactor_69 (r_is (M := (zI M 25 32 (nI 2))) hP (zSame.MTk ((zSame.rf sAQ M).I (Or.inl ⟨rfl, Or.inr rfl⟩)).up hk) hk2 (by decide)) lM_153 rec_M rfl (Nat.le_of_ble_eq_true rfl) rfl (Nat.le_of_ble_eq_true rfl) ?_
          refine ev_if0 (tgt := 87) dM_readFactor_72 (by decide) (fun h72 => ?_) (fun h72 => ?_)
          · try simp (disch := omega) only [zcond, nI_ltI, nI_leI, nI_eq, zb0, Classical.not_not, Bool.not_eq_false, Bool.not_eq_true, Nat.not_lt, Nat.not_le] at h72
            try simp only [decide_eq_true_eq, decide_eq_false_iff_not] at h72
            refine ev_const (v := nI 0) dM_readFactor_87 (by decide) ?_
            refine ev_ret dM_readFactor_88 rfl rfl ?_
            have hn1 : ¬ (tMk t ts k = 48 ∨ tMk t ts k = 34) := by intro h; rcases h with h | h <;> first | exact h7 h | exact h17 h
            first
            | (exfalso; omega)
            | (refine rQ_n (zSame.I (S := sAQ) (zSame.rf _ M) (Or.inl ⟨rfl, Or.inr rfl⟩)) ?_
               unfold aFac
               rw [if_neg hn1, if_neg h32, if_neg (by intro h; first | exact h54 h.1 | exact h.2 h12), if_neg (by intro h; first | exact h72 h.1 | exact h.2 h12)])
            | (refine rQ_y (((zSame.I (S := sAQ) (zSame.rf _ M) (Or.inl ⟨rfl, Or.inr rfl⟩)).I (Or.inr rfl)).I (Or.inl ⟨rfl, Or.inl rfl⟩)) (hq.st.push h12 (by decide)) ?_
               unfold aFac
               rw [if_neg hn1, if_neg h32]
               first | rw [if_pos (And.intro h54 h12)] | (have g1 : ¬ (tMk t ts k = 40 ∧ q.2.length ≠ 12) := (fun h => h54 h.1); rw [if_neg g1, if_pos (And.intro h72 h12)]))
          · try simp (disch := omega) only [zcond, nI_ltI, nI_leI, nI_eq, zb0, Classical.not_not, Bool.not_eq_false, Bool.not_eq_true, Nat.not_lt, Nat.not_le] at h72
            try simp only [decide_eq_true_eq, decide_eq_false_iff_not] at h72
            refine ev_al dM_readFactor_75 rfl (by first | assumption | rfl) ?_
            refine ev_const (v := nI 4) dM_readFactor_76 (by decide) ?_
            by_cases h12 : q.2.length = 12
            · refine ev_pV dM_readFactor_77 (r_push_n (M := (zI M 25 32 (nI 2))) hP hq.st h12) lM_157 rec_M rfl (Nat.le_of_ble_eq_true rfl) rfl (Nat.le_of_ble_eq_true rfl) ?_
              refine ev_if0 (tgt := 87) dM_readFactor_80 (by decide) (fun h80 => ?_) (fun h80 => ?_)
              · try simp (disch := omega) only [zcond, nI_ltI, nI_leI, nI_eq, zb0, Classical.not_not, Bool.not_eq_false, Bool.not_eq_true, Nat.not_lt, Nat.not_le] at h80
                refine ev_const (v := nI 0) dM_readFactor_87 (by decide) ?_
                refine ev_ret dM_readFactor_88 rfl rfl ?_
                have hn1 : ¬ (tMk t ts k = 48 ∨ tMk t ts k = 34) := by intro h; rcases h with h | h <;> first | exact h7 h | exact h17 h
                first
                | (exfalso; omega)
                | (refine rQ_n (zSame.I (S := sAQ) (zSame.rf _ M) (Or.inl ⟨rfl, Or.inr rfl⟩)) ?_
                   unfold aFac
                   rw [if_neg hn1, if_neg h32, if_neg (by intro h; first | exact h54 h.1 | exact h.2 h12), if_neg (by intro h; first | exact h72 h.1 | exact h.2 h12)])
                | (refine rQ_y (((zSame.I (S := sAQ) (zSame.rf _ M) (Or.inl ⟨rfl, Or.inr rfl⟩)).I (Or.inr rfl)).I (Or.inl ⟨rfl, Or.inl rfl⟩)) (hq.st.push h12 (by decide)) ?_
                   unfold aFac
                   rw [if_neg hn1, if_neg h32]
                   first | rw [if_pos (And.intro h54 h12)] | (have g1 : ¬ (tMk t ts k = 40 ∧ q.2.length ≠ 12) := (fun h => h54 h.1); rw [if_neg g1, if_pos (And.intro h72 h12)]))
              · exact absurd (show nI 0 = nI 0 from rfl) h80
            · refine ev_cV dM_readFactor_77 (r_push_y (M := (zI M 25 32 (nI 2))) (x := 4) hP hq.st h12) lM_157 rec_M rfl (Nat.le_of_ble_eq_true rfl) rfl (Nat.le_of_ble_eq_true rfl) (fun z M1 hz => ?_)
              obtain ⟨rfl, rfl⟩ := hz
              refine ev_if0 (tgt := 87) dM_readFactor_80 (by decide) (fun h80 => ?_) (fun h80 => ?_)
              · exact absurd h80 (show ¬ nI 1 = nI 0 by decide)
              · try simp (disch := omega) only [zcond, nI_ltI, nI_leI, nI_eq, zb0, Classical.not_not, Bool.not_eq_false, Bool.not_eq_true, Nat.not_lt, Nat.not_le] at h80
                refine ev_const (v := nI 1) dM_readFactor_83 (by decide) ?_
                refine ev_goto (tgt := 88) dM_readFactor_84 (by decide) ?_
                refine ev_ret dM_readFactor_88 rfl rfl ?_
                have hn1 : ¬ (tMk t ts k = 48 ∨ tMk t ts k = 34) := by intro h; rcases h with h | h <;> first | exact h7 h | exact h17 h
                first
                | (exfalso; omega)
                | (refine rQ_n (zSame.I (S := sAQ) (zSame.rf _ M) (Or.inl ⟨rfl, Or.inr rfl⟩)) ?_
                   unfold aFac
                   rw [if_neg hn1, if_neg h32, if_neg (by intro h; first | exact h54 h.1 | exact h.2 h12), if_neg (by intro h; first | exact h72 h.1 | exact h.2 h12)])
                | (refine rQ_y (((zSame.I (S := sAQ) (zSame.rf _ M) (Or.inl ⟨rfl, Or.inr rfl⟩)).I (Or.inr rfl)).I (Or.inl ⟨rfl, Or.inl rfl⟩)) (hq.st.push h12 (by decide)) ?_
                   unfold aFac
                   rw [if_neg hn1, if_neg h32]
                   first | rw [if_pos (And.intro h54 h12)] | (have g1 : ¬ (tMk t ts k = 40 ∧ q.2.length ≠ 12) := (fun h => h54 h.1); rw [if_neg g1, if_pos (And.intro h72 h12)]))
        · try simp (disch := omega) only [zcond, nI_ltI, nI_leI, nI_eq, zb0, Classical.not_not, Bool.not_eq_false, Bool.not_eq_true, Nat.not_lt, Nat.not_le] at h54
          try simp only [decide_eq_true_eq, decide_eq_false_iff_not] at h54
          refine ev_al dM_readFactor_57 rfl (by first | assumption | rfl) ?_
          refine ev_const (v := nI 2) dM_readFactor_58 (by decide) ?_
          by_cases h12 : q.2.length = 12
          · refine ev_pV dM_readFactor_59 (r_push_n (M := (zI M 25 32 (nI 2))) hP hq.st h12) lM_157 rec_M rfl (Nat.le_of_ble_eq_true rfl) rfl (Nat.le_of_ble_eq_true rfl) ?_
            refine ev_if0 (tgt := 83) dM_readFactor_62 (by decide) (fun h62 => ?_) (fun h62 => ?_)
            · exact absurd (show nI 0 = nI 0 from rfl) h62
            · try simp (disch := omega) only [zcond, nI_ltI, nI_leI, nI_eq, zb0, Classical.not_not, Bool.not_eq_false, Bool.not_eq_true, Nat.not_lt, Nat.not_le] at h62
              refine ev_al dM_readFactor_65 rfl (by first | assumption | rfl) ?_
              refine ev_il dM_readFactor_66 rfl (by first | assumption | rfl) ?_
              refine ev_const (v := nI 45) dM_readFactor_67 (by decide) ?_
              refine ev_pV dM_readFactor_69 (r_is (M := (zI M 25 32 (nI 2))) hP (zSame.MTk ((zSame.rf sAQ M).I (Or.inl ⟨rfl, Or.inr rfl⟩)).up hk) hk2 (by decide)) lM_153 rec_M rfl (Nat.le_of_ble_eq_true rfl) rfl (Nat.le_of_ble_eq_true rfl) ?_
              refine ev_if0 (tgt := 87) dM_readFactor_72 (by decide) (fun h72 => ?_) (fun h72 => ?_)
              · try simp (disch := omega) only [zcond, nI_ltI, nI_leI, nI_eq, zb0, Classical.not_not, Bool.not_eq_false, Bool.not_eq_true, Nat.not_lt, Nat.not_le] at h72
                try simp only [decide_eq_true_eq, decide_eq_false_iff_not] at h72
                refine ev_const (v := nI 0) dM_readFactor_87 (by decide) ?_
                refine ev_ret dM_readFactor_88 rfl rfl ?_
                have hn1 : ¬ (tMk t ts k = 48 ∨ tMk t ts k = 34) := by intro h; rcases h with h | h <;> first | exact h7 h | exact h17 h
                first
                | (exfalso; omega)
                | (refine rQ_n (zSame.I (S := sAQ) (zSame.rf _ M) (Or.inl ⟨rfl, Or.inr rfl⟩)) ?_
                   unfold aFac
                   rw [if_neg hn1, if_neg h32, if_neg (by intro h; first | exact h54 h.1 | exact h.2 h12), if_neg (by intro h; first | exact h72 h.1 | exact h.2 h12)])
                | (refine rQ_y (((zSame.I (S := sAQ) (zSame.rf _ M) (Or.inl ⟨rfl, Or.inr rfl⟩)).I (Or.inr rfl)).I (Or.inl ⟨rfl, Or.inl rfl⟩)) (hq.st.push h12 (by decide)) ?_
                   unfold aFac
                   rw [if_neg hn1, if_neg h32]
                   first | rw [if_pos (And.intro h54 h12)] | (have g1 : ¬ (tMk t ts k = 40 ∧ q.2.length ≠ 12) := (fun h => h54 h.1); rw [if_neg g1, if_pos (And.intro h72 h12)]))
              · try simp (disch := omega) only [zcond, nI_ltI, nI_leI, nI_eq, zb0, Classical.not_not, Bool.not_eq_false, Bool.not_eq_true, Nat.not_lt, Nat.not_le] at h72
                try simp only [decide_eq_true_eq, decide_eq_false_iff_not] at h72
                refine ev_al dM_readFactor_75 rfl (by first | assumption | rfl) ?_
                refine ev_const (v := nI 4) dM_readFactor_76 (by decide) ?_
                by_cases h12 : q.2.length = 12
                · refine ev_pV dM_readFactor_77 (r_push_n (M := (zI M 25 32 (nI 2))) hP hq.st h12) lM_157 rec_M rfl (Nat.le_of_ble_eq_true rfl) rfl (Nat.le_of_ble_eq_true rfl) ?_
                  refine ev_if0 (tgt := 87) dM_readFactor_80 (by decide) (fun h80 => ?_) (fun h80 => ?_)
                  · try simp (disch := omega) only [zcond, nI_ltI, nI_leI, nI_eq, zb0, Classical.not_not, Bool.not_eq_false, Bool.not_eq_true, Nat.not_lt, Nat.not_le] at h80
                    refine ev_const (v := nI 0) dM_readFactor_87 (by decide) ?_
                    refine ev_ret dM_readFactor_88 rfl rfl ?_
                    have hn1 : ¬ (tMk t ts k = 48 ∨ tMk t ts k = 34) := by intro h; rcases h with h | h <;> first | exact h7 h | exact h17 h
                    first
                    | (exfalso; omega)
                    | (refine rQ_n (zSame.I (S := sAQ) (zSame.rf _ M) (Or.inl ⟨rfl, Or.inr rfl⟩)) ?_
                       unfold aFac
                       rw [if_neg hn1, if_neg h32, if_neg (by intro h; first | exact h54 h.1 | exact h.2 h12), if_neg (by intro h; first | exact h72 h.1 | exact h.2 h12)])
                    | (refine rQ_y (((zSame.I (S := sAQ) (zSame.rf _ M) (Or.inl ⟨rfl, Or.inr rfl⟩)).I (Or.inr rfl)).I (Or.inl ⟨rfl, Or.inl rfl⟩)) (hq.st.push h12 (by decide)) ?_
                       unfold aFac
                       rw [if_neg hn1, if_neg h32]
                       first | rw [if_pos (And.intro h54 h12)] | (have g1 : ¬ (tMk t ts k = 40 ∧ q.2.length ≠ 12) := (fun h => h54 h.1); rw [if_neg g1, if_pos (And.intro h72 h12)]))
                  · exact absurd (show nI 0 = nI 0 from rfl) h80
                · refine ev_cV dM_readFactor_77 (r_push_y (M := (zI M 25 32 (nI 2))) (x := 4) hP hq.st h12) lM_157 rec_M rfl (Nat.le_of_ble_eq_true rfl) rfl (Nat.le_of_ble_eq_true rfl) (fun z M1 hz => ?_)
                  obtain ⟨rfl, rfl⟩ := hz
                  refine ev_if0 (tgt := 87) dM_readFactor_80 (by decide) (fun h80 => ?_) (fun h80 => ?_)
                  · exact absurd h80 (show ¬ nI 1 = nI 0 by decide)
                  · try simp (disch := omega) only [zcond, nI_ltI, nI_leI, nI_eq, zb0, Classical.not_not, Bool.not_eq_false, Bool.not_eq_true, Nat.not_lt, Nat.not_le] at h80
                    refine ev_const (v := nI 1) dM_readFactor_83 (by decide) ?_
                    refine ev_goto (tgt := 88) dM_readFactor_84 (by decide) ?_
                    refine ev_ret dM_readFactor_88 rfl rfl ?_
                    have hn1 : ¬ (tMk t ts k = 48 ∨ tMk t ts k = 34) := by intro h; rcases h with h | h <;> first | exact h7 h | exact h17 h
                    first
                    | (exfalso; omega)
                    | (refine rQ_n (zSame.I (S := sAQ) (zSame.rf _ M) (Or.inl ⟨rfl, Or.inr rfl⟩)) ?_
                       unfold aFac
                       rw [if_neg hn1, if_neg h32, if_neg (by intro h; first | exact h54 h.1 | exact h.2 h12), if_neg (by intro h; first | exact h72 h.1 | exact h.2 h12)])
                    | (refine rQ_y (((zSame.I (S := sAQ) (zSame.rf _ M) (Or.inl ⟨rfl, Or.inr rfl⟩)).I (Or.inr rfl)).I (Or.inl ⟨rfl, Or.inl rfl⟩)) (hq.st.push h12 (by decide)) ?_
                       unfold aFac
                       rw [if_neg hn1, if_neg h32]
                       first | rw [if_pos (And.intro h54 h12)] | (have g1 : ¬ (tMk t ts k = 40 ∧ q.2.length ≠ 12) := (fun h => h54 h.1); rw [if_neg g1, if_pos (And.intro h72 h12)]))
          · refine ev_cV dM_readFactor_59 (r_push_y (M := (zI M 25 32 (nI 2))) (x := 2) hP hq.st h12) lM_157 rec_M rfl (Nat.le_of_ble_eq_true rfl) rfl (Nat.le_of_ble_eq_true rfl) (fun z M1 hz => ?_)
            obtain ⟨rfl, rfl⟩ := hz
            refine ev_if0 (tgt := 83) dM_readFactor_62 (by decide) (fun h62 => ?_) (fun h62 => ?_)
            · try simp (disch := omega) only [zcond, nI_ltI, nI_leI, nI_eq, zb0, Classical.not_not, Bool.not_eq_false, Bool.not_eq_true, Nat.not_lt, Nat.not_le] at h62
              refine ev_const (v := nI 1) dM_readFactor_83 (by decide) ?_
              refine ev_goto (tgt := 88) dM_readFactor_84 (by decide) ?_
              refine ev_ret dM_readFactor_88 rfl rfl ?_
              have hn1 : ¬ (tMk t ts k = 48 ∨ tMk t ts k = 34) := by intro h; rcases h with h | h <;> first | exact h7 h | exact h17 h
              first
              | (exfalso; omega)
              | (refine rQ_n (zSame.I (S := sAQ) (zSame.rf _ M) (Or.inl ⟨rfl, Or.inr rfl⟩)) ?_
                 unfold aFac
                 rw [if_neg hn1, if_neg h32, if_neg (by intro h; first | exact h54 h.1 | exact h.2 h12), if_neg (by intro h; first | exact h72 h.1 | exact h.2 h12)])
              | (refine rQ_y (((zSame.I (S := sAQ) (zSame.rf _ M) (Or.inl ⟨rfl, Or.inr rfl⟩)).I (Or.inr rfl)).I (Or.inl ⟨rfl, Or.inl rfl⟩)) (hq.st.push h12 (by decide)) ?_
                 unfold aFac
                 rw [if_neg hn1, if_neg h32]
                 first | rw [if_pos (And.intro h54 h12)] | (have g1 : ¬ (tMk t ts k = 40 ∧ q.2.length ≠ 12) := (fun h => h54 h.1); rw [if_neg g1, if_pos (And.intro h72 h12)]))
            · exact absurd (show ¬ nI 1 = nI 0 by decide) h62
      · simp (disch := omega) only [zcond, nI_eq, Classical.not_not] at h32
        rw [tMk_kind (m := 97) (by omega) hkd hsg] at h32
        refine ev_al dM_readFactor_35 rfl (by first | assumption | rfl) ?_
        refine ev_const (v := nI 4) dM_readFactor_36 (by decide) ?_
        refine ev_puti dM_readFactor_37 fM_134 fwM_state rfl (vp_nar_int _) rfl ?_
        refine ev_const (v := nI 1) dM_readFactor_40 (by decide) ?_
        refine ev_ret dM_readFactor_41 rfl rfl ?_
        refine rQ_y (zSame.I (S := sAQ) (zSame.rf _ M) (Or.inl ⟨rfl, Or.inr rfl⟩)) hq.st ?_
        unfold aFac
        rw [if_neg (by intro h; rcases h with h | h <;> first | exact h7 h | exact h17 h), if_pos h32]
    · simp (disch := omega) only [zcond, nI_eq, Classical.not_not] at h17
      rw [tMk_kind (m := 34) (by omega) hkd hsg] at h17
      refine ev_al dM_readFactor_20 rfl (by first | assumption | rfl) ?_
      refine ev_cV dM_readFactor_21 (r_whole hP hq) lM_165 rec_M rfl (Nat.le_of_ble_eq_true rfl) rfl (Nat.le_of_ble_eq_true rfl) (fun z M1 hz => ?_)
      obtain ⟨rfl, hs1, hA1⟩ := hz
      refine ev_const (v := nI 1) dM_readFactor_24 (by decide) ?_
      refine ev_ret dM_readFactor_25 rfl rfl ?_
      refine rQ_y hs1 hA1 ?_
      unfold aFac
      first | rw [if_pos (Or.inl h7)] | rw [if_pos (Or.inr h17)]
set_option maxRecDepth 100000 in
set_option maxHeartbeats 4000000 in
theorem r_close {a x : Nat} {o : List Nat} (hP : M.2.1 = zP0 n b) (hq : AQ M (a, x :: o)) : Ct Lx xs (d + 2) mM_close [.ref 25] M (rQ M (some (aClo (x :: o)))) := by
  unfold Ct
  have hx6 : x < 6 := hq.2.2.2.2 x List.mem_cons_self
  have hl : o.length + 1 ≤ 12 := hq.2.2.1
  refine ev_al dM_close_0 rfl (by first | assumption | rfl) ?_
  refine ev_pV dM_close_1 (r_top hP hq) lM_130 rec_M rfl (Nat.le_of_ble_eq_true rfl) rfl (Nat.le_of_ble_eq_true rfl) ?_
  refine ev_is dM_close_4 rfl (Nat.le_of_ble_eq_true rfl) ?_
  refine ev_al dM_close_5 rfl (by first | assumption | rfl) ?_
  refine ev_stk dM_close_6 rfl ?_
  refine ev_geti dM_close_7 fM_127 rfl ?_
  rw [show M.1 25 30 = nI (o.length + 1) from hq.2.1]
  refine ev_const (v := nI 1) dM_close_10 (by decide) ?_
  first | with_reducible refine ev_subN dM_close_11 (by omega) ?_ | refine ev_sub dM_close_11 ?_
  refine ev_puti dM_close_12 fM_127 fwM_open rfl (vp_nar_int _) rfl ?_
  refine ev_mem (M' := zI M 25 30 (nI o.length)) (by rw [show o.length + 1 - 1 = o.length by omega]) ?_
  refine ev_il dM_close_15 rfl (by first | assumption | rfl) ?_
  refine ev_const (v := nI 5) dM_close_16 (by decide) ?_
  refine ev_icmp (tgt := 29) dM_close_17 (by decide) (fun h17 => ?_) (fun h17 => ?_)
  · simp only [zcond, Classical.not_not] at h17
    rw [nI_eq (by show x < 2 ^ 31; omega) (by decide)] at h17
    refine ev_al dM_close_29 rfl (by first | assumption | rfl) ?_
    refine ev_cV dM_close_30 (r_whole (q := (a, o)) hP hq.pop) lM_165 rec_M rfl (Nat.le_of_ble_eq_true rfl) rfl (Nat.le_of_ble_eq_true rfl) (fun z M1 hz => ?_)
    obtain ⟨rfl, hs1, hA1⟩ := hz
    refine ev_const (v := nI 1) dM_close_33 (by decide) ?_
    refine ev_ret dM_close_34 rfl rfl ?_
    first
    | (refine rQ_y ((zSame.I (S := sAQ) (zSame.rf _ M) (Or.inl ⟨rfl, Or.inl rfl⟩)).tr hs1) hA1 ?_
       unfold aClo
       rw [if_neg h17]; rfl)
    | (refine rQ_y ((zSame.I (S := sAQ) (zSame.rf _ M) (Or.inl ⟨rfl, Or.inl rfl⟩)).I (Or.inl ⟨rfl, Or.inr rfl⟩)) hq.pop.st ?_
       unfold aClo
       rw [if_pos h17]; rfl)
  · simp only [zcond, Classical.not_not] at h17
    rw [nI_eq (by show x < 2 ^ 31; omega) (by decide)] at h17
    refine ev_al dM_close_20 rfl (by first | assumption | rfl) ?_
    refine ev_const (v := nI 6) dM_close_21 (by decide) ?_
    refine ev_puti dM_close_23 fM_134 fwM_state rfl (vp_nar_int _) rfl ?_
    refine ev_goto (tgt := 33) dM_close_26 (by decide) ?_
    refine ev_const (v := nI 1) dM_close_33 (by decide) ?_
    refine ev_ret dM_close_34 rfl rfl ?_
    first
    | (refine rQ_y ((zSame.I (S := sAQ) (zSame.rf _ M) (Or.inl ⟨rfl, Or.inl rfl⟩)).tr hs1) hA1 ?_
       unfold aClo
       rw [if_neg h17]; rfl)
    | (refine rQ_y ((zSame.I (S := sAQ) (zSame.rf _ M) (Or.inl ⟨rfl, Or.inl rfl⟩)).I (Or.inl ⟨rfl, Or.inr rfl⟩)) hq.pop.st ?_
       unfold aClo
       rw [if_pos h17]; rfl)
end
