/- Reading: sums, factors, calls (rows laid by program) -/
def pNeed (nT tag : Nat) (s : pE) : Nat := 5 * (nT - s.1) + (if tag = 0 then 3 else if tag = 1 then 2 else if tag = 2 then 2 else 1)
theorem pOb_2 {nT : Nat} {mk : Nat → Nat} {s : pE} {c c' dp : Nat} (h : pOb nT mk s c dp = false) (h' : pOb nT mk (pOs nT mk s c dp) c' dp = true) : pS nT mk s c = false ∧ pOs nT mk s c dp = s := by
  have hq := pOb_t h'
  have h1 : pS nT mk s c = false := by
    cases hc : pS nT mk s c with
    | false => rfl
    | true =>
      have : pOb nT mk s c dp = true := by unfold pOb; rw [hc]; simp; omega
      rw [this] at h; cases h
  refine ⟨h1, ?_⟩
  unfold pOs
  rw [if_neg (by rw [h1]; decide)]
theorem pOb_f {nT : Nat} {mk : Nat → Nat} {s : pE} {c dp : Nat} (h : pOb nT mk s c dp = false) : pS nT mk s c = false ∨ 12 ≤ dp := by
  cases hc : pS nT mk s c with
  | false => exact Or.inl rfl
  | true => right; unfold pOb at h; rw [hc] at h; simp at h; exact h
section
variable {nT : Nat} {mk : Nat → Nat} {tv : Nat → Int32} {sl : Nat → Nat} {nv : Nat → Int32} {f dp : Nat} {a b : Int32} {s : pE}
theorem pr3_mul (h0 : s.2 = false) (h1 : pS nT mk s 42 = true) : pr nT mk tv sl nv (f + 1) 3 dp 0 a b s = pr nT mk tv sl nv f 3 dp 0 a (b * (pr nT mk tv sl nv f 1 dp 0 0 0 (s.1 + 1, s.2)).2) (pr nT mk tv sl nv f 1 dp 0 0 0 (s.1 + 1, s.2)).1 := by
  rw [pr, if_neg (by rw [h0]; decide), if_pos h1]
theorem pr3_add (h0 : s.2 = false) (h1 : pS nT mk s 42 = false) (h2 : pS nT mk s 43 = true) : pr nT mk tv sl nv (f + 1) 3 dp 0 a b s = pr nT mk tv sl nv f 3 dp 0 (a + b) (pr nT mk tv sl nv f 1 dp 0 0 0 (s.1 + 1, s.2)).2 (pr nT mk tv sl nv f 1 dp 0 0 0 (s.1 + 1, s.2)).1 := by
  rw [pr, if_neg (by rw [h0]; decide), if_neg (by rw [h1]; decide), if_pos h2]
theorem pr3_sub (h0 : s.2 = false) (h1 : pS nT mk s 42 = false) (h2 : pS nT mk s 43 = false) (h3 : pS nT mk s 45 = true) : pr nT mk tv sl nv (f + 1) 3 dp 0 a b s = pr nT mk tv sl nv f 3 dp 0 (a + b) (nI 0 - (pr nT mk tv sl nv f 1 dp 0 0 0 (s.1 + 1, s.2)).2) (pr nT mk tv sl nv f 1 dp 0 0 0 (s.1 + 1, s.2)).1 := by
  rw [pr, if_neg (by rw [h0]; decide), if_neg (by rw [h1]; decide), if_neg (by rw [h2]; decide), if_pos h3]
end
/-- what one expression's reading needs of the memory -/
def xOk (Lx : Nat) (xs : Nat → Int32) (M : zM) (n b r nT : Nat) (mk : Nat → Nat) (tv : Nat → Int32) (sl : Nat → Nat) (nv : Nat → Int32) : Prop :=
  M.2.1 = zP0 n b ∧ zR r ∧ Mks M r nT mk ∧ (∀ d k s, k < nT → Pu Lx xs (d + 1) mS_lengthOf [.ref (r + 1), .int (nI k)] (mE M r s) (nI (sl k))) ∧ (∀ d k s, k < nT → mk k = 48 → Pu Lx xs (d + 2) mS_digitsValue [.ref (r + 1), .int (nI k)] (mE M r s) (tv k)) ∧ (∀ d k s, k < nT → mk k = 97 → Pu Lx xs (d + 3) mR_namedValue [.ref r, .int (nI k)] (mE M r s) (nv k))
section
variable {Lx : Nat} {xs : Nat → Int32} {M : zM} {n b r nT : Nat} {mk : Nat → Nat} {tv : Nat → Int32} {sl : Nat → Nat} {nv : Nat → Int32}
def xSum (Lx : Nat) (xs : Nat → Int32) (M : zM) (r nT : Nat) (mk : Nat → Nat) (tv : Nat → Int32) (sl : Nat → Nat) (nv : Nat → Int32) (f : Nat) : Prop := ∀ (D dp : Nat) (s : pE), f + 6 ≤ D → dp ≤ 12 → s.1 ≤ nT → pNeed nT 0 s < f → Ct Lx xs D mR_readSum [.ref r, .int (nI dp)] (mE M r s) (fun q M' => q = some (pr nT mk tv sl nv f 0 dp 0 0 0 s).2 ∧ M' = mE M r (pr nT mk tv sl nv f 0 dp 0 0 0 s).1)
def xFac (Lx : Nat) (xs : Nat → Int32) (M : zM) (r nT : Nat) (mk : Nat → Nat) (tv : Nat → Int32) (sl : Nat → Nat) (nv : Nat → Int32) (f : Nat) : Prop := ∀ (D dp : Nat) (s : pE), f + 6 ≤ D → dp ≤ 12 → s.1 ≤ nT → pNeed nT 1 s < f → Ct Lx xs D mR_readFactor [.ref r, .int (nI dp)] (mE M r s) (fun q M' => q = some (pr nT mk tv sl nv f 1 dp 0 0 0 s).2 ∧ M' = mE M r (pr nT mk tv sl nv f 1 dp 0 0 0 s).1)
def xCal (Lx : Nat) (xs : Nat → Int32) (M : zM) (r nT : Nat) (mk : Nat → Nat) (tv : Nat → Int32) (sl : Nat → Nat) (nv : Nat → Int32) (f : Nat) : Prop := ∀ (D dp nm : Nat) (s : pE), f + 6 ≤ D → dp ≤ 12 → nm < nT → s.1 ≤ nT → pNeed nT 2 s < f → Ct Lx xs D mR_readCall [.ref r, .int (nI nm), .int (nI dp)] (mE M r s) (fun q M' => q = some (pr nT mk tv sl nv f 2 dp nm 0 0 s).2 ∧ M' = mE M r (pr nT mk tv sl nv f 2 dp nm 0 0 s).1)
def xL3 (Lx : Nat) (xs : Nat → Int32) (M : zM) (r nT : Nat) (mk : Nat → Nat) (tv : Nat → Int32) (sl : Nat → Nat) (nv : Nat → Int32) (f : Nat) : Prop := ∀ (D dp N : Nat) (a b : Int32) (s : pE) (L : Nat → Value) (R : Option Int32 → zM → Prop), f + 6 ≤ D → dp ≤ 12 → s.1 ≤ nT → pNeed nT 3 s < f → N ≤ 160 → (s.2 = false → N ≤ s.1) → L 0 = .ref r → L 1 = .int (nI dp) → L 2 = .int a → L 3 = .int b → L 4 = .int (nI N) → R (some (pr nT mk tv sl nv f 3 dp 0 a b s).2) (mE M r (pr nT mk tv sl nv f 3 dp 0 a b s).1) → Ev Lx xs D mR_readSum 11 L [] (mE M r s) (zpost mR_readSum R)
def xL4 (Lx : Nat) (xs : Nat → Int32) (M : zM) (r nT : Nat) (mk : Nat → Nat) (tv : Nat → Int32) (sl : Nat → Nat) (nv : Nat → Int32) (f : Nat) : Prop := ∀ (D dp N : Nat) (a : Int32) (s : pE) (L : Nat → Value) (R : Option Int32 → zM → Prop), f + 6 ≤ D → dp < 12 → s.1 ≤ nT → pNeed nT 4 s < f → N ≤ 160 → (s.2 = false → N ≤ s.1) → L 0 = .ref r → L 2 = .int (nI dp) → L 3 = .int a → L 4 = .int (nI N) → R (some (pr nT mk tv sl nv f 4 dp 0 a 0 s).2) (mE M r (pr nT mk tv sl nv f 4 dp 0 a 0 s).1) → Ev Lx xs D mR_readCall 53 L [] (mE M r s) (zpost mR_readCall R)
set_option maxRecDepth 100000 in
set_option maxHeartbeats 4000000 in
theorem x_fac (hx : xOk Lx xs M n b r nT mk tv sl nv) {f : Nat} (ihS : xSum Lx xs M r nT mk tv sl nv f) (ihF : xFac Lx xs M r nT mk tv sl nv f) (ihC : xCal Lx xs M r nT mk tv sl nv f) : xFac Lx xs M r nT mk tv sl nv (f + 1) := by
  obtain ⟨hP, hr, hE, hsl, htv, hnv⟩ := hx
  have hnT := hE.2.1
  intro D dp s hD hdp hs hn
  obtain ⟨D0, rfl⟩ : ∃ D0, D = D0 + 7 := ⟨D - 7, by omega⟩
  unfold Ct
  refine ev_al dR_readFactor_0 rfl (by first | assumption | rfl) ?_
  refine ev_geti dR_readFactor_1 fR_25 (sh_R hr) ?_
  rw [mE_n]
  refine ev_is dR_readFactor_4 rfl (Nat.le_of_ble_eq_true rfl) ?_
  refine ev_al dR_readFactor_5 rfl (by first | assumption | rfl) ?_
  refine ev_const (v := nI 48) dR_readFactor_6 (by decide) ?_
  refine ev_cV dR_readFactor_8 (c_takes hP hr hE (by omega) (by decide)) lR_73 (rec_R hr) rfl (Nat.le_of_ble_eq_true rfl) rfl (Nat.le_of_ble_eq_true rfl) (fun q M1 hq => ?_)
  obtain ⟨rfl, rfl⟩ := hq
  refine ev_if0 (tgt := 23) dR_readFactor_11 (by decide) (fun h11 => ?_) (fun h11 => ?_)
  · try simp (disch := omega) only [zcond, nI_ltI, nI_leI, nI_eq, zb0, Classical.not_not, Bool.not_eq_false, Bool.not_eq_true, Nat.not_lt, Nat.not_le] at h11
    first | rw [pT_t h11] | rw [pT_f h11]
    try obtain ⟨hu11, hlt11, hmk11⟩ := pS_iff.mp h11
    refine ev_al dR_readFactor_23 rfl (by first | assumption | rfl) ?_
    refine ev_const (v := nI 34) dR_readFactor_24 (by decide) ?_
    refine ev_cV dR_readFactor_26 (c_takes hP hr hE (by omega) (by decide)) lR_73 (rec_R hr) rfl (Nat.le_of_ble_eq_true rfl) rfl (Nat.le_of_ble_eq_true rfl) (fun q M1 hq => ?_)
    obtain ⟨rfl, rfl⟩ := hq
    refine ev_if0 (tgt := 43) dR_readFactor_29 (by decide) (fun h29 => ?_) (fun h29 => ?_)
    · try simp (disch := omega) only [zcond, nI_ltI, nI_leI, nI_eq, zb0, Classical.not_not, Bool.not_eq_false, Bool.not_eq_true, Nat.not_lt, Nat.not_le] at h29
      first | rw [pT_t h29] | rw [pT_f h29]
      try obtain ⟨hu29, hlt29, hmk29⟩ := pS_iff.mp h29
      refine ev_al dR_readFactor_43 rfl (by first | assumption | rfl) ?_
      refine ev_const (v := nI 97) dR_readFactor_44 (by decide) ?_
      refine ev_cV dR_readFactor_46 (c_takes hP hr hE (by omega) (by decide)) lR_73 (rec_R hr) rfl (Nat.le_of_ble_eq_true rfl) rfl (Nat.le_of_ble_eq_true rfl) (fun q M1 hq => ?_)
      obtain ⟨rfl, rfl⟩ := hq
      refine ev_if0 (tgt := 76) dR_readFactor_49 (by decide) (fun h49 => ?_) (fun h49 => ?_)
      · try simp (disch := omega) only [zcond, nI_ltI, nI_leI, nI_eq, zb0, Classical.not_not, Bool.not_eq_false, Bool.not_eq_true, Nat.not_lt, Nat.not_le] at h49
        first | rw [pT_t h49] | rw [pT_f h49]
        try obtain ⟨hu49, hlt49, hmk49⟩ := pS_iff.mp h49
        refine ev_al dR_readFactor_76 rfl (by first | assumption | rfl) ?_
        refine ev_const (v := nI 45) dR_readFactor_77 (by decide) ?_
        refine ev_il dR_readFactor_79 rfl (by first | assumption | rfl) ?_
        refine ev_cV dR_readFactor_80 (c_opens hP hr hE (by omega) (by decide) (by omega)) lR_86 (rec_R hr) rfl (Nat.le_of_ble_eq_true rfl) rfl (Nat.le_of_ble_eq_true rfl) (fun q M1 hq => ?_)
        obtain ⟨rfl, rfl⟩ := hq
        refine ev_if0 (tgt := 96) dR_readFactor_83 (by decide) (fun h83 => ?_) (fun h83 => ?_)
        · try simp (disch := omega) only [zcond, nI_ltI, nI_leI, nI_eq, zb0, Classical.not_not, Bool.not_eq_false, Bool.not_eq_true, Nat.not_lt, Nat.not_le] at h83
          refine ev_al dR_readFactor_96 rfl (by first | assumption | rfl) ?_
          refine ev_const (v := nI 40) dR_readFactor_97 (by decide) ?_
          refine ev_il dR_readFactor_99 rfl (by first | assumption | rfl) ?_
          refine ev_cV dR_readFactor_100 (c_opens (s := pOs nT mk s 45 dp) hP hr hE (by rw [pOs_f h83]; omega) (by decide) (by omega)) lR_86 (rec_R hr) rfl (Nat.le_of_ble_eq_true rfl) rfl (Nat.le_of_ble_eq_true rfl) (fun q M1 hq => ?_)
          obtain ⟨rfl, rfl⟩ := hq
          refine ev_if0 (tgt := 122) dR_readFactor_103 (by decide) (fun h103 => ?_) (fun h103 => ?_)
          · try simp (disch := omega) only [zcond, nI_ltI, nI_leI, nI_eq, zb0, Classical.not_not, Bool.not_eq_false, Bool.not_eq_true, Nat.not_lt, Nat.not_le] at h103
            refine ev_al dR_readFactor_122 rfl (by first | assumption | rfl) ?_
            refine ev_const (v := nI 1) dR_readFactor_123 (by decide) ?_
            refine ev_puti dR_readFactor_124 fR_29 fwR_stopped (sh_R hr) rfl rfl ?_
            rw [mE_S1, pOs_f h103, pOs_f h83]
            refine ev_const (v := nI 0) dR_readFactor_127 (by decide) ?_
            refine ev_ret dR_readFactor_128 rfl rfl ?_
            rw [show pr nT mk tv sl nv (f + 1) 1 dp 0 0 0 s = ((s.1, true), nI 0) by
              rcases pOb_f h83 with h45 | h12
              · have e : pOs nT mk s 45 dp = s := if_neg (by rw [h45]; decide)
                rw [e] at h103
                rcases pOb_f h103 with h40 | h12
                · simp [pr, h11, h29, h49, h45, h40]
                · simp [pr, h11, h29, h49, h45, h12]
              · simp [pr, h11, h29, h49, h12]]
            exact ⟨rfl, rfl⟩
          · try simp (disch := omega) only [zcond, nI_ltI, nI_leI, nI_eq, zb0, Classical.not_not, Bool.not_eq_false, Bool.not_eq_true, Nat.not_lt, Nat.not_le] at h103
            obtain ⟨h45, e45⟩ := pOb_2 h83 h103
            rw [e45] at h103 ⊢
            obtain ⟨ho1, ho2, ho3⟩ := pOb_t h103
            rw [ho3]
            obtain ⟨hu103, hlt103, hmk103⟩ := pS_iff.mp ho1
            refine ev_al dR_readFactor_106 rfl (by first | assumption | rfl) ?_
            refine ev_il dR_readFactor_107 rfl (by first | assumption | rfl) ?_
            refine ev_const (v := nI 1) dR_readFactor_108 (by decide) ?_
            first | with_reducible refine ev_addN dR_readFactor_109 ?_ | refine ev_add dR_readFactor_109 ?_
            refine ev_cV dR_readFactor_110 (ihS (D0 + 6) (dp + 1) (s.1 + 1, s.2) (by omega) (by omega) hlt103 (by simp [pNeed] at hn ⊢; omega)) lR_76 (rec_R hr) rfl (Nat.le_of_ble_eq_true rfl) rfl (Nat.le_of_ble_eq_true rfl) (fun q M1 hq => ?_)
            obtain ⟨rfl, rfl⟩ := hq
            refine ev_is dR_readFactor_113 rfl (Nat.le_of_ble_eq_true rfl) ?_
            refine ev_al dR_readFactor_114 rfl (by first | assumption | rfl) ?_
            refine ev_const (v := nI 41) dR_readFactor_115 (by decide) ?_
            refine ev_cV dR_readFactor_117 (c_needs hP hr hE (Nat.lt_of_le_of_lt ((pr_ok _ _ _ _ _ _ _).2.1 hlt103) (by omega)) (by decide)) lR_69 (rec_R hr) rfl (Nat.le_of_ble_eq_true rfl) rfl (Nat.le_of_ble_eq_true rfl) (fun q M1 hq => ?_)
            obtain ⟨rfl, rfl⟩ := hq
            refine ev_il dR_readFactor_120 rfl (by first | assumption | rfl) ?_
            refine ev_ret dR_readFactor_121 rfl rfl ?_
            have h12 : ¬ 12 ≤ dp := by omega
            constructor <;> simp [pr, h11, h29, h49, h45, ho1, h12]
        · try simp (disch := omega) only [zcond, nI_ltI, nI_leI, nI_eq, zb0, Classical.not_not, Bool.not_eq_false, Bool.not_eq_true, Nat.not_lt, Nat.not_le] at h83
          obtain ⟨ho1, ho2, ho3⟩ := pOb_t h83
          rw [ho3]
          obtain ⟨hu83, hlt83, hmk83⟩ := pS_iff.mp ho1
          refine ev_const (v := nI 0) dR_readFactor_86 (by decide) ?_
          refine ev_al dR_readFactor_87 rfl (by first | assumption | rfl) ?_
          refine ev_il dR_readFactor_88 rfl (by first | assumption | rfl) ?_
          refine ev_const (v := nI 1) dR_readFactor_89 (by decide) ?_
          first | with_reducible refine ev_addN dR_readFactor_90 ?_ | refine ev_add dR_readFactor_90 ?_
          refine ev_cV dR_readFactor_91 (ihF (D0 + 6) (dp + 1) (s.1 + 1, s.2) (by omega) (by omega) hlt83 (by simp [pNeed] at hn ⊢; omega)) lR_90 (rec_R hr) rfl (Nat.le_of_ble_eq_true rfl) rfl (Nat.le_of_ble_eq_true rfl) (fun q M1 hq => ?_)
          obtain ⟨rfl, rfl⟩ := hq
          refine ev_sub dR_readFactor_94 ?_
          refine ev_ret dR_readFactor_95 rfl rfl ?_
          have h12 : ¬ 12 ≤ dp := by omega
          constructor <;> simp [pr, h11, h29, h49, ho1, h12]
      · try simp (disch := omega) only [zcond, nI_ltI, nI_leI, nI_eq, zb0, Classical.not_not, Bool.not_eq_false, Bool.not_eq_true, Nat.not_lt, Nat.not_le] at h49
        first | rw [pT_t h49] | rw [pT_f h49]
        try obtain ⟨hu49, hlt49, hmk49⟩ := pS_iff.mp h49
        refine ev_al dR_readFactor_52 rfl (by first | assumption | rfl) ?_
        refine ev_const (v := nI 40) dR_readFactor_53 (by decide) ?_
        refine ev_pV dR_readFactor_55 (c_sees (s := (s.1 + 1, s.2)) hP hr hE (show s.1 + 1 < 2 ^ 31 by omega) (by decide)) lR_52 (rec_R hr) rfl (Nat.le_of_ble_eq_true rfl) rfl (Nat.le_of_ble_eq_true rfl) ?_
        refine ev_if0 (tgt := 70) dR_readFactor_58 (by decide) (fun h58 => ?_) (fun h58 => ?_)
        · try simp (disch := omega) only [zcond, nI_ltI, nI_leI, nI_eq, zb0, Classical.not_not, Bool.not_eq_false, Bool.not_eq_true, Nat.not_lt, Nat.not_le] at h58
          refine ev_al dR_readFactor_70 rfl (by first | assumption | rfl) ?_
          refine ev_il dR_readFactor_71 rfl (by first | assumption | rfl) ?_
          refine ev_pV dR_readFactor_72 (hnv _ s.1 _ hlt49 hmk49) lR_99 (rec_R hr) rfl (Nat.le_of_ble_eq_true rfl) rfl (Nat.le_of_ble_eq_true rfl) ?_
          refine ev_ret dR_readFactor_75 rfl rfl ?_
          constructor <;> simp [pr, h11, h29, h49, h58]
        · try simp (disch := omega) only [zcond, nI_ltI, nI_leI, nI_eq, zb0, Classical.not_not, Bool.not_eq_false, Bool.not_eq_true, Nat.not_lt, Nat.not_le] at h58
          refine ev_al dR_readFactor_61 rfl (by first | assumption | rfl) ?_
          refine ev_il dR_readFactor_62 rfl (by first | assumption | rfl) ?_
          refine ev_il dR_readFactor_63 rfl (by first | assumption | rfl) ?_
          refine ev_cV dR_readFactor_64 (ihC (D0 + 6) dp s.1 (s.1 + 1, s.2) (by omega) hdp hlt49 hlt49 (by simp [pNeed] at hn ⊢; omega)) lR_79 (rec_R hr) rfl (Nat.le_of_ble_eq_true rfl) rfl (Nat.le_of_ble_eq_true rfl) (fun q M1 hq => ?_)
          obtain ⟨rfl, rfl⟩ := hq
          refine ev_goto (tgt := 75) dR_readFactor_67 (by decide) ?_
          refine ev_ret dR_readFactor_75 rfl rfl ?_
          constructor <;> simp [pr, h11, h29, h49, h58]
    · try simp (disch := omega) only [zcond, nI_ltI, nI_leI, nI_eq, zb0, Classical.not_not, Bool.not_eq_false, Bool.not_eq_true, Nat.not_lt, Nat.not_le] at h29
      first | rw [pT_t h29] | rw [pT_f h29]
      try obtain ⟨hu29, hlt29, hmk29⟩ := pS_iff.mp h29
      refine ev_al dR_readFactor_32 rfl (by first | assumption | rfl) ?_
      refine ev_getrP dR_readFactor_33 fR_12 (sh_R hr) (zq hP (pt_source hr)) ?_
      refine ev_il dR_readFactor_36 rfl (by first | assumption | rfl) ?_
      refine ev_pV dR_readFactor_37 (hsl _ s.1 _ hlt29) lR_96 (rec_S hr) rfl (Nat.le_of_ble_eq_true rfl) rfl (Nat.le_of_ble_eq_true rfl) ?_
      refine ev_const (v := nI 2) dR_readFactor_40 (by decide) ?_
      refine ev_sub dR_readFactor_41 ?_
      refine ev_ret dR_readFactor_42 rfl rfl ?_
      constructor <;> simp [pr, h11, h29]
  · try simp (disch := omega) only [zcond, nI_ltI, nI_leI, nI_eq, zb0, Classical.not_not, Bool.not_eq_false, Bool.not_eq_true, Nat.not_lt, Nat.not_le] at h11
    first | rw [pT_t h11] | rw [pT_f h11]
    try obtain ⟨hu11, hlt11, hmk11⟩ := pS_iff.mp h11
    refine ev_al dR_readFactor_14 rfl (by first | assumption | rfl) ?_
    refine ev_getrP dR_readFactor_15 fR_12 (sh_R hr) (zq hP (pt_source hr)) ?_
    refine ev_il dR_readFactor_18 rfl (by first | assumption | rfl) ?_
    refine ev_pV dR_readFactor_19 (htv _ s.1 _ hlt11 hmk11) lR_93 (rec_S hr) rfl (Nat.le_of_ble_eq_true rfl) rfl (Nat.le_of_ble_eq_true rfl) ?_
    refine ev_ret dR_readFactor_22 rfl rfl ?_
    constructor <;> simp [pr, h11]
set_option maxRecDepth 100000 in
set_option maxHeartbeats 4000000 in
theorem x_sum (hx : xOk Lx xs M n b r nT mk tv sl nv) {f : Nat} (ihF : xFac Lx xs M r nT mk tv sl nv f) (ihL : xL3 Lx xs M r nT mk tv sl nv f) : xSum Lx xs M r nT mk tv sl nv (f + 1) := by
  obtain ⟨hP, hr, hE, hsl, htv, hnv⟩ := hx
  have hnT := hE.2.1
  intro D dp s hD hdp hs hn
  obtain ⟨D0, rfl⟩ : ∃ D0, D = D0 + 7 := ⟨D - 7, by omega⟩
  unfold Ct
  refine ev_const (v := nI 0) dR_readSum_0 (by decide) ?_
  refine ev_is dR_readSum_1 rfl (Nat.le_of_ble_eq_true rfl) ?_
  refine ev_al dR_readSum_2 rfl (by first | assumption | rfl) ?_
  refine ev_il dR_readSum_3 rfl (by first | assumption | rfl) ?_
  refine ev_cV dR_readSum_4 (ihF (D0 + 6) dp s (by omega) hdp hs (by simp [pNeed] at hn ⊢; omega)) lR_90 (rec_R hr) rfl (Nat.le_of_ble_eq_true rfl) rfl (Nat.le_of_ble_eq_true rfl) (fun q M1 hq => ?_)
  obtain ⟨rfl, rfl⟩ := hq
  refine ev_is dR_readSum_7 rfl (Nat.le_of_ble_eq_true rfl) ?_
  refine ev_const (v := nI 0) dR_readSum_8 (by decide) ?_
  refine ev_is dR_readSum_9 rfl (Nat.le_of_ble_eq_true rfl) ?_
  have ho := pr_ok (nT := nT) (mk := mk) (tv := tv) (sl := sl) (nv := nv) f 1 dp 0 0 0 s
  refine ihL (D0 + 7) dp 0 _ _ _ _ _ (by omega) hdp (ho.2.1 hs) (by have := ho.1; simp [pNeed] at hn ⊢; omega) (by omega) (fun _ => Nat.zero_le _) rfl rfl rfl rfl rfl ?_
  constructor <;> simp [pr]
set_option maxRecDepth 100000 in
set_option maxHeartbeats 4000000 in
theorem x_l3 (hx : xOk Lx xs M n b r nT mk tv sl nv) {f : Nat} (ihF : xFac Lx xs M r nT mk tv sl nv f) (ihL : xL3 Lx xs M r nT mk tv sl nv f) : xL3 Lx xs M r nT mk tv sl nv (f + 1) := by
  obtain ⟨hP, hr, hE, hsl, htv, hnv⟩ := hx
  have hnT := hE.2.1
  intro D dp N a b s L R hD hdp hs hn hN hN2 hL0 hL1 hL2 hL3 hL4 hR
  obtain ⟨D0, rfl⟩ : ∃ D0, D = D0 + 7 := ⟨D - 7, by omega⟩
  refine ev_il dR_readSum_11 rfl (by first | assumption | rfl) ?_
  refine ev_const (v := nI 160) dR_readSum_13 (by decide) ?_
  refine ev_icmp (tgt := 95) dR_readSum_16 (by decide) (fun h16 => ?_) (fun h16 => ?_)
  · try simp (disch := omega) only [zcond, nI_ltI, nI_leI, nI_eq, zb0, Classical.not_not, Bool.not_eq_false, Bool.not_eq_true, Nat.not_lt, Nat.not_le] at h16
    refine ev_il dR_readSum_95 rfl (by first | assumption | rfl) ?_
    refine ev_il dR_readSum_96 rfl (by first | assumption | rfl) ?_
    refine ev_add dR_readSum_97 ?_
    refine ev_ret dR_readSum_98 rfl rfl ?_
    rw [show pr nT mk tv sl nv (f + 1) 3 dp 0 a b s = (s, a + b) by
      cases hu : s.2 with
      | true => simp [pr, hu]
      | false =>
        have hnn : ∀ c, pS nT mk s c = true → s.1 < nT ∧ mk s.1 = c := fun c hc => (pS_iff.mp hc).2
        have hN1 := hN2 hu
        first
        | simp [pr, hu, h32, h52, h74]
        | (have hz : ∀ c, pS nT mk s c = false := fun c => Bool.eq_false_iff.mpr (fun hc => by have := hnn c hc; omega)
           simp [pr, hu, hz])
        | simp_all] at hR
    exact hR
  · try simp (disch := omega) only [zcond, nI_ltI, nI_leI, nI_eq, zb0, Classical.not_not, Bool.not_eq_false, Bool.not_eq_true, Nat.not_lt, Nat.not_le] at h16
    refine ev_al dR_readSum_19 rfl (by first | assumption | rfl) ?_
    refine ev_geti dR_readSum_20 fR_29 (sh_R hr) ?_
    rw [mE_s]
    refine ev_if0 (tgt := 95) dR_readSum_23 (by decide) (fun h23 => ?_) (fun h23 => ?_)
    · try simp (disch := omega) only [zcond, nI_ltI, nI_leI, nI_eq, zb0, Classical.not_not, Bool.not_eq_false, Bool.not_eq_true, Nat.not_lt, Nat.not_le] at h23
      refine ev_il dR_readSum_95 rfl (by first | assumption | rfl) ?_
      refine ev_il dR_readSum_96 rfl (by first | assumption | rfl) ?_
      refine ev_add dR_readSum_97 ?_
      refine ev_ret dR_readSum_98 rfl rfl ?_
      rw [show pr nT mk tv sl nv (f + 1) 3 dp 0 a b s = (s, a + b) by
        cases hu : s.2 with
        | true => simp [pr, hu]
        | false =>
          have hnn : ∀ c, pS nT mk s c = true → s.1 < nT ∧ mk s.1 = c := fun c hc => (pS_iff.mp hc).2
          have hN1 := hN2 hu
          first
          | simp [pr, hu, h32, h52, h74]
          | (have hz : ∀ c, pS nT mk s c = false := fun c => Bool.eq_false_iff.mpr (fun hc => by have := hnn c hc; omega)
             simp [pr, hu, hz])
          | simp_all] at hR
      exact hR
    · try simp (disch := omega) only [zcond, nI_ltI, nI_leI, nI_eq, zb0, Classical.not_not, Bool.not_eq_false, Bool.not_eq_true, Nat.not_lt, Nat.not_le] at h23
      refine ev_al dR_readSum_26 rfl (by first | assumption | rfl) ?_
      refine ev_const (v := nI 42) dR_readSum_27 (by decide) ?_
      refine ev_cV dR_readSum_29 (c_takes hP hr hE (by omega) (by decide)) lR_73 (rec_R hr) rfl (Nat.le_of_ble_eq_true rfl) rfl (Nat.le_of_ble_eq_true rfl) (fun q M1 hq => ?_)
      obtain ⟨rfl, rfl⟩ := hq
      refine ev_if0 (tgt := 46) dR_readSum_32 (by decide) (fun h32 => ?_) (fun h32 => ?_)
      · try simp (disch := omega) only [zcond, nI_ltI, nI_leI, nI_eq, zb0, Classical.not_not, Bool.not_eq_false, Bool.not_eq_true, Nat.not_lt, Nat.not_le] at h32
        first | rw [pT_t h32] | rw [pT_f h32]
        try obtain ⟨hu32, hlt32, hmk32⟩ := pS_iff.mp h32
        refine ev_al dR_readSum_46 rfl (by first | assumption | rfl) ?_
        refine ev_const (v := nI 43) dR_readSum_47 (by decide) ?_
        refine ev_cV dR_readSum_49 (c_takes hP hr hE (by omega) (by decide)) lR_73 (rec_R hr) rfl (Nat.le_of_ble_eq_true rfl) rfl (Nat.le_of_ble_eq_true rfl) (fun q M1 hq => ?_)
        obtain ⟨rfl, rfl⟩ := hq
        refine ev_if0 (tgt := 68) dR_readSum_52 (by decide) (fun h52 => ?_) (fun h52 => ?_)
        · try simp (disch := omega) only [zcond, nI_ltI, nI_leI, nI_eq, zb0, Classical.not_not, Bool.not_eq_false, Bool.not_eq_true, Nat.not_lt, Nat.not_le] at h52
          first | rw [pT_t h52] | rw [pT_f h52]
          try obtain ⟨hu52, hlt52, hmk52⟩ := pS_iff.mp h52
          refine ev_al dR_readSum_68 rfl (by first | assumption | rfl) ?_
          refine ev_const (v := nI 45) dR_readSum_69 (by decide) ?_
          refine ev_cV dR_readSum_71 (c_takes hP hr hE (by omega) (by decide)) lR_73 (rec_R hr) rfl (Nat.le_of_ble_eq_true rfl) rfl (Nat.le_of_ble_eq_true rfl) (fun q M1 hq => ?_)
          obtain ⟨rfl, rfl⟩ := hq
          refine ev_if0 (tgt := 95) dR_readSum_74 (by decide) (fun h74 => ?_) (fun h74 => ?_)
          · try simp (disch := omega) only [zcond, nI_ltI, nI_leI, nI_eq, zb0, Classical.not_not, Bool.not_eq_false, Bool.not_eq_true, Nat.not_lt, Nat.not_le] at h74
            first | rw [pT_t h74] | rw [pT_f h74]
            try obtain ⟨hu74, hlt74, hmk74⟩ := pS_iff.mp h74
            refine ev_il dR_readSum_95 rfl (by first | assumption | rfl) ?_
            refine ev_il dR_readSum_96 rfl (by first | assumption | rfl) ?_
            refine ev_add dR_readSum_97 ?_
            refine ev_ret dR_readSum_98 rfl rfl ?_
            rw [show pr nT mk tv sl nv (f + 1) 3 dp 0 a b s = (s, a + b) by
              cases hu : s.2 with
              | true => simp [pr, hu]
              | false =>
                have hnn : ∀ c, pS nT mk s c = true → s.1 < nT ∧ mk s.1 = c := fun c hc => (pS_iff.mp hc).2
                have hN1 := hN2 hu
                first
                | simp [pr, hu, h32, h52, h74]
                | (have hz : ∀ c, pS nT mk s c = false := fun c => Bool.eq_false_iff.mpr (fun hc => by have := hnn c hc; omega)
                   simp [pr, hu, hz])
                | simp_all] at hR
            exact hR
          · try simp (disch := omega) only [zcond, nI_ltI, nI_leI, nI_eq, zb0, Classical.not_not, Bool.not_eq_false, Bool.not_eq_true, Nat.not_lt, Nat.not_le] at h74
            first | rw [pT_t h74] | rw [pT_f h74]
            try obtain ⟨hu74, hlt74, hmk74⟩ := pS_iff.mp h74
            refine ev_il dR_readSum_77 rfl (by first | assumption | rfl) ?_
            refine ev_il dR_readSum_78 rfl (by first | assumption | rfl) ?_
            refine ev_add dR_readSum_79 ?_
            refine ev_is dR_readSum_80 rfl (Nat.le_of_ble_eq_true rfl) ?_
            refine ev_const (v := nI 0) dR_readSum_81 (by decide) ?_
            refine ev_al dR_readSum_82 rfl (by first | assumption | rfl) ?_
            refine ev_il dR_readSum_83 rfl (by first | assumption | rfl) ?_
            refine ev_cV dR_readSum_84 (ihF (D0 + 6) dp (s.1 + 1, s.2) (by omega) hdp hlt74 (by simp [pNeed] at hn ⊢; omega)) lR_90 (rec_R hr) rfl (Nat.le_of_ble_eq_true rfl) rfl (Nat.le_of_ble_eq_true rfl) (fun q M1 hq => ?_)
            obtain ⟨rfl, rfl⟩ := hq
            refine ev_sub dR_readSum_87 ?_
            refine ev_is dR_readSum_88 rfl (Nat.le_of_ble_eq_true rfl) ?_
            refine ev_inc1 dR_readSum_89 (by first | assumption | rfl) ?_
            refine ev_goto (tgt := 11) dR_readSum_92 (by decide) ?_
            have ho := pr_ok (nT := nT) (mk := mk) (tv := tv) (sl := sl) (nv := nv) f 1 dp 0 0 0 (s.1 + 1, s.2)
            have ho1 : s.1 + 1 ≤ (pr nT mk tv sl nv f 1 dp 0 0 0 (s.1 + 1, s.2)).1.1 := ho.1
            have hN1 := hN2 h23
            refine ihL (D0 + 7) dp (N + 1) _ _ _ _ _ (by omega) hdp (ho.2.1 (show s.1 + 1 ≤ nT by omega)) (by simp [pNeed] at hn ⊢; omega) (by omega) (fun _ => by omega) (by first | assumption | rfl) (by first | assumption | rfl) (by first | assumption | rfl) (by first | assumption | rfl) rfl ?_
            first | (rw [pr3_mul h23 h32] at hR; exact hR) | (rw [pr3_add h23 h32 h52] at hR; exact hR) | (rw [pr3_sub h23 h32 h52 h74] at hR; exact hR)
        · try simp (disch := omega) only [zcond, nI_ltI, nI_leI, nI_eq, zb0, Classical.not_not, Bool.not_eq_false, Bool.not_eq_true, Nat.not_lt, Nat.not_le] at h52
          first | rw [pT_t h52] | rw [pT_f h52]
          try obtain ⟨hu52, hlt52, hmk52⟩ := pS_iff.mp h52
          refine ev_il dR_readSum_55 rfl (by first | assumption | rfl) ?_
          refine ev_il dR_readSum_56 rfl (by first | assumption | rfl) ?_
          refine ev_add dR_readSum_57 ?_
          refine ev_is dR_readSum_58 rfl (Nat.le_of_ble_eq_true rfl) ?_
          refine ev_al dR_readSum_59 rfl (by first | assumption | rfl) ?_
          refine ev_il dR_readSum_60 rfl (by first | assumption | rfl) ?_
          refine ev_cV dR_readSum_61 (ihF (D0 + 6) dp (s.1 + 1, s.2) (by omega) hdp hlt52 (by simp [pNeed] at hn ⊢; omega)) lR_90 (rec_R hr) rfl (Nat.le_of_ble_eq_true rfl) rfl (Nat.le_of_ble_eq_true rfl) (fun q M1 hq => ?_)
          obtain ⟨rfl, rfl⟩ := hq
          refine ev_is dR_readSum_64 rfl (Nat.le_of_ble_eq_true rfl) ?_
          refine ev_goto (tgt := 89) dR_readSum_65 (by decide) ?_
          refine ev_inc1 dR_readSum_89 (by first | assumption | rfl) ?_
          refine ev_goto (tgt := 11) dR_readSum_92 (by decide) ?_
          have ho := pr_ok (nT := nT) (mk := mk) (tv := tv) (sl := sl) (nv := nv) f 1 dp 0 0 0 (s.1 + 1, s.2)
          have ho1 : s.1 + 1 ≤ (pr nT mk tv sl nv f 1 dp 0 0 0 (s.1 + 1, s.2)).1.1 := ho.1
          have hN1 := hN2 h23
          refine ihL (D0 + 7) dp (N + 1) _ _ _ _ _ (by omega) hdp (ho.2.1 (show s.1 + 1 ≤ nT by omega)) (by simp [pNeed] at hn ⊢; omega) (by omega) (fun _ => by omega) (by first | assumption | rfl) (by first | assumption | rfl) (by first | assumption | rfl) (by first | assumption | rfl) rfl ?_
          first | (rw [pr3_mul h23 h32] at hR; exact hR) | (rw [pr3_add h23 h32 h52] at hR; exact hR) | (rw [pr3_sub h23 h32 h52 h74] at hR; exact hR)
      · try simp (disch := omega) only [zcond, nI_ltI, nI_leI, nI_eq, zb0, Classical.not_not, Bool.not_eq_false, Bool.not_eq_true, Nat.not_lt, Nat.not_le] at h32
        first | rw [pT_t h32] | rw [pT_f h32]
        try obtain ⟨hu32, hlt32, hmk32⟩ := pS_iff.mp h32
        refine ev_il dR_readSum_35 rfl (by first | assumption | rfl) ?_
        refine ev_al dR_readSum_36 rfl (by first | assumption | rfl) ?_
        refine ev_il dR_readSum_37 rfl (by first | assumption | rfl) ?_
        refine ev_cV dR_readSum_38 (ihF (D0 + 6) dp (s.1 + 1, s.2) (by omega) hdp hlt32 (by simp [pNeed] at hn ⊢; omega)) lR_90 (rec_R hr) rfl (Nat.le_of_ble_eq_true rfl) rfl (Nat.le_of_ble_eq_true rfl) (fun q M1 hq => ?_)
        obtain ⟨rfl, rfl⟩ := hq
        refine ev_mul dR_readSum_41 ?_
        refine ev_is dR_readSum_42 rfl (Nat.le_of_ble_eq_true rfl) ?_
        refine ev_goto (tgt := 89) dR_readSum_43 (by decide) ?_
        refine ev_inc1 dR_readSum_89 (by first | assumption | rfl) ?_
        refine ev_goto (tgt := 11) dR_readSum_92 (by decide) ?_
        have ho := pr_ok (nT := nT) (mk := mk) (tv := tv) (sl := sl) (nv := nv) f 1 dp 0 0 0 (s.1 + 1, s.2)
        have ho1 : s.1 + 1 ≤ (pr nT mk tv sl nv f 1 dp 0 0 0 (s.1 + 1, s.2)).1.1 := ho.1
        have hN1 := hN2 h23
        refine ihL (D0 + 7) dp (N + 1) _ _ _ _ _ (by omega) hdp (ho.2.1 (show s.1 + 1 ≤ nT by omega)) (by simp [pNeed] at hn ⊢; omega) (by omega) (fun _ => by omega) (by first | assumption | rfl) (by first | assumption | rfl) (by first | assumption | rfl) (by first | assumption | rfl) rfl ?_
        first | (rw [pr3_mul h23 h32] at hR; exact hR) | (rw [pr3_add h23 h32 h52] at hR; exact hR) | (rw [pr3_sub h23 h32 h52 h74] at hR; exact hR)
set_option maxRecDepth 100000 in
set_option maxHeartbeats 4000000 in
theorem x_cal (hx : xOk Lx xs M n b r nT mk tv sl nv) {f : Nat} (ihS : xSum Lx xs M r nT mk tv sl nv f) (ihL : xL4 Lx xs M r nT mk tv sl nv f) : xCal Lx xs M r nT mk tv sl nv (f + 1) := by
  obtain ⟨hP, hr, hE, hsl, htv, hnv⟩ := hx
  have hnT := hE.2.1
  intro D dp nm s hD hdp hnm hs hn
  obtain ⟨D0, rfl⟩ : ∃ D0, D = D0 + 7 := ⟨D - 7, by omega⟩
  unfold Ct
  refine ev_al dR_readCall_0 rfl (by first | assumption | rfl) ?_
  refine ev_getrP dR_readCall_1 fR_12 (sh_R hr) (zq hP (pt_source hr)) ?_
  refine ev_il dR_readCall_4 rfl (by first | assumption | rfl) ?_
  refine ev_pV dR_readCall_5 (hsl _ nm _ hnm) lR_96 (rec_S hr) rfl (Nat.le_of_ble_eq_true rfl) rfl (Nat.le_of_ble_eq_true rfl) ?_
  refine ev_is dR_readCall_8 rfl (Nat.le_of_ble_eq_true rfl) ?_
  refine ev_al dR_readCall_9 rfl (by first | assumption | rfl) ?_
  refine ev_const (v := nI 40) dR_readCall_10 (by decide) ?_
  refine ev_il dR_readCall_12 rfl (by first | assumption | rfl) ?_
  refine ev_cV dR_readCall_13 (c_opens hP hr hE (by omega) (by decide) (by omega)) lR_86 (rec_R hr) rfl (Nat.le_of_ble_eq_true rfl) rfl (Nat.le_of_ble_eq_true rfl) (fun q M1 hq => ?_)
  obtain ⟨rfl, rfl⟩ := hq
  refine ev_if0 (tgt := 26) dR_readCall_16 (by decide) (fun h16 => ?_) (fun h16 => ?_)
  · try simp (disch := omega) only [zcond, nI_ltI, nI_leI, nI_eq, zb0, Classical.not_not, Bool.not_eq_false, Bool.not_eq_true, Nat.not_lt, Nat.not_le] at h16
    obtain ⟨ho1, ho2, ho3⟩ := pOb_t h16
    rw [ho3]
    obtain ⟨hu16, hlt16, hmk16⟩ := pS_iff.mp ho1
    refine ev_al dR_readCall_26 rfl (by first | assumption | rfl) ?_
    refine ev_const (v := nI 41) dR_readCall_27 (by decide) ?_
    refine ev_cV dR_readCall_29 (c_takes (s := (s.1 + 1, s.2)) hP hr hE (show s.1 + 1 < 2 ^ 31 by omega) (by decide)) lR_73 (rec_R hr) rfl (Nat.le_of_ble_eq_true rfl) rfl (Nat.le_of_ble_eq_true rfl) (fun q M1 hq => ?_)
    obtain ⟨rfl, rfl⟩ := hq
    refine ev_if0 (tgt := 37) dR_readCall_32 (by decide) (fun h32 => ?_) (fun h32 => ?_)
    · try simp (disch := omega) only [zcond, nI_ltI, nI_leI, nI_eq, zb0, Classical.not_not, Bool.not_eq_false, Bool.not_eq_true, Nat.not_lt, Nat.not_le] at h32
      first | rw [pT_t h32] | rw [pT_f h32]
      try obtain ⟨hu32, hlt32, hmk32⟩ := pS_iff.mp h32
      refine ev_const (v := nI 31) dR_readCall_37 (by decide) ?_
      refine ev_il dR_readCall_39 rfl (by first | assumption | rfl) ?_
      refine ev_mul dR_readCall_40 ?_
      refine ev_al dR_readCall_41 rfl (by first | assumption | rfl) ?_
      refine ev_il dR_readCall_42 rfl (by first | assumption | rfl) ?_
      refine ev_const (v := nI 1) dR_readCall_43 (by decide) ?_
      first | with_reducible refine ev_addN dR_readCall_44 ?_ | refine ev_add dR_readCall_44 ?_
      refine ev_cV dR_readCall_45 (ihS (D0 + 6) (dp + 1) (s.1 + 1, s.2) (by omega) (by omega) hlt16 (by simp [pNeed] at hn ⊢; omega)) lR_76 (rec_R hr) rfl (Nat.le_of_ble_eq_true rfl) rfl (Nat.le_of_ble_eq_true rfl) (fun q M1 hq => ?_)
      obtain ⟨rfl, rfl⟩ := hq
      refine ev_add dR_readCall_48 ?_
      refine ev_is dR_readCall_49 rfl (Nat.le_of_ble_eq_true rfl) ?_
      refine ev_const (v := nI 0) dR_readCall_50 (by decide) ?_
      refine ev_is dR_readCall_51 rfl (Nat.le_of_ble_eq_true rfl) ?_
      have ho := pr_ok (nT := nT) (mk := mk) (tv := tv) (sl := sl) (nv := nv) f 0 (dp + 1) 0 0 0 (s.1 + 1, s.2)
      have ho4 : s.1 + 1 ≤ (pr nT mk tv sl nv f 0 (dp + 1) 0 0 0 (s.1 + 1, s.2)).1.1 := ho.1
      refine ihL (D0 + 7) dp 0 _ _ _ _ (by omega) ho2 (ho.2.1 hlt16) (by simp [pNeed] at hn ⊢; omega) (by omega) (fun _ => Nat.zero_le _) rfl rfl rfl rfl ?_
      constructor <;> simp [pr, ho1, ho2, h32]
    · try simp (disch := omega) only [zcond, nI_ltI, nI_leI, nI_eq, zb0, Classical.not_not, Bool.not_eq_false, Bool.not_eq_true, Nat.not_lt, Nat.not_le] at h32
      first | rw [pT_t h32] | rw [pT_f h32]
      try obtain ⟨hu32, hlt32, hmk32⟩ := pS_iff.mp h32
      refine ev_il dR_readCall_35 rfl (by first | assumption | rfl) ?_
      refine ev_ret dR_readCall_36 rfl rfl ?_
      constructor <;> simp [pr, ho1, ho2, h32]
  · try simp (disch := omega) only [zcond, nI_ltI, nI_leI, nI_eq, zb0, Classical.not_not, Bool.not_eq_false, Bool.not_eq_true, Nat.not_lt, Nat.not_le] at h16
    refine ev_al dR_readCall_19 rfl (by first | assumption | rfl) ?_
    refine ev_const (v := nI 1) dR_readCall_20 (by decide) ?_
    refine ev_puti dR_readCall_21 fR_29 fwR_stopped (sh_R hr) rfl rfl ?_
    rw [mE_S1, pOs_f h16]
    refine ev_const (v := nI 0) dR_readCall_24 (by decide) ?_
    refine ev_ret dR_readCall_25 rfl rfl ?_
    rw [show pr nT mk tv sl nv (f + 1) 2 dp nm 0 0 s = ((s.1, true), nI 0) by
      rcases pOb_f h16 with h40 | h12
      · simp [pr, h40]
      · have h12 : ¬ dp < 12 := by omega
        simp [pr, h12]]
    exact ⟨rfl, rfl⟩
set_option maxRecDepth 100000 in
set_option maxHeartbeats 4000000 in
theorem x_l4 (hx : xOk Lx xs M n b r nT mk tv sl nv) {f : Nat} (ihS : xSum Lx xs M r nT mk tv sl nv f) (ihL : xL4 Lx xs M r nT mk tv sl nv f) : xL4 Lx xs M r nT mk tv sl nv (f + 1) := by
  obtain ⟨hP, hr, hE, hsl, htv, hnv⟩ := hx
  have hnT := hE.2.1
  intro D dp N a s L R hD hdp hs hn hN hN2 hL0 hL2 hL3 hL4 hR
  obtain ⟨D0, rfl⟩ : ∃ D0, D = D0 + 7 := ⟨D - 7, by omega⟩
  refine ev_il dR_readCall_53 rfl (by first | assumption | rfl) ?_
  refine ev_const (v := nI 160) dR_readCall_55 (by decide) ?_
  refine ev_icmp (tgt := 89) dR_readCall_58 (by decide) (fun h58 => ?_) (fun h58 => ?_)
  · try simp (disch := omega) only [zcond, nI_ltI, nI_leI, nI_eq, zb0, Classical.not_not, Bool.not_eq_false, Bool.not_eq_true, Nat.not_lt, Nat.not_le] at h58
    refine ev_al dR_readCall_89 rfl (by first | assumption | rfl) ?_
    refine ev_const (v := nI 41) dR_readCall_90 (by decide) ?_
    refine ev_cV dR_readCall_92 (c_needs hP hr hE (by omega) (by decide)) lR_69 (rec_R hr) rfl (Nat.le_of_ble_eq_true rfl) rfl (Nat.le_of_ble_eq_true rfl) (fun q M1 hq => ?_)
    obtain ⟨rfl, rfl⟩ := hq
    refine ev_il dR_readCall_95 rfl (by first | assumption | rfl) ?_
    refine ev_ret dR_readCall_96 rfl rfl ?_
    rw [show pr nT mk tv sl nv (f + 1) 4 dp 0 a 0 s = (pN nT mk s 41, a) by
      first
      | simp [pr, h67]
      | (have hz : pS nT mk s 44 = false := Bool.eq_false_iff.mpr (fun hc => by
           obtain ⟨g1, g2, g3⟩ := pS_iff.mp hc
           have := hN2 g1
           omega)
         simp [pr, hz])] at hR
    exact hR
  · try simp (disch := omega) only [zcond, nI_ltI, nI_leI, nI_eq, zb0, Classical.not_not, Bool.not_eq_false, Bool.not_eq_true, Nat.not_lt, Nat.not_le] at h58
    refine ev_al dR_readCall_61 rfl (by first | assumption | rfl) ?_
    refine ev_const (v := nI 44) dR_readCall_62 (by decide) ?_
    refine ev_cV dR_readCall_64 (c_takes hP hr hE (by omega) (by decide)) lR_73 (rec_R hr) rfl (Nat.le_of_ble_eq_true rfl) rfl (Nat.le_of_ble_eq_true rfl) (fun q M1 hq => ?_)
    obtain ⟨rfl, rfl⟩ := hq
    refine ev_if0 (tgt := 89) dR_readCall_67 (by decide) (fun h67 => ?_) (fun h67 => ?_)
    · try simp (disch := omega) only [zcond, nI_ltI, nI_leI, nI_eq, zb0, Classical.not_not, Bool.not_eq_false, Bool.not_eq_true, Nat.not_lt, Nat.not_le] at h67
      first | rw [pT_t h67] | rw [pT_f h67]
      try obtain ⟨hu67, hlt67, hmk67⟩ := pS_iff.mp h67
      refine ev_al dR_readCall_89 rfl (by first | assumption | rfl) ?_
      refine ev_const (v := nI 41) dR_readCall_90 (by decide) ?_
      refine ev_cV dR_readCall_92 (c_needs hP hr hE (by omega) (by decide)) lR_69 (rec_R hr) rfl (Nat.le_of_ble_eq_true rfl) rfl (Nat.le_of_ble_eq_true rfl) (fun q M1 hq => ?_)
      obtain ⟨rfl, rfl⟩ := hq
      refine ev_il dR_readCall_95 rfl (by first | assumption | rfl) ?_
      refine ev_ret dR_readCall_96 rfl rfl ?_
      rw [show pr nT mk tv sl nv (f + 1) 4 dp 0 a 0 s = (pN nT mk s 41, a) by
        first
        | simp [pr, h67]
        | (have hz : pS nT mk s 44 = false := Bool.eq_false_iff.mpr (fun hc => by
             obtain ⟨g1, g2, g3⟩ := pS_iff.mp hc
             have := hN2 g1
             omega)
           simp [pr, hz])] at hR
      exact hR
    · try simp (disch := omega) only [zcond, nI_ltI, nI_leI, nI_eq, zb0, Classical.not_not, Bool.not_eq_false, Bool.not_eq_true, Nat.not_lt, Nat.not_le] at h67
      first | rw [pT_t h67] | rw [pT_f h67]
      try obtain ⟨hu67, hlt67, hmk67⟩ := pS_iff.mp h67
      refine ev_const (v := nI 31) dR_readCall_70 (by decide) ?_
      refine ev_il dR_readCall_72 rfl (by first | assumption | rfl) ?_
      refine ev_mul dR_readCall_73 ?_
      refine ev_al dR_readCall_74 rfl (by first | assumption | rfl) ?_
      refine ev_il dR_readCall_75 rfl (by first | assumption | rfl) ?_
      refine ev_const (v := nI 1) dR_readCall_76 (by decide) ?_
      first | with_reducible refine ev_addN dR_readCall_77 ?_ | refine ev_add dR_readCall_77 ?_
      refine ev_cV dR_readCall_78 (ihS (D0 + 6) (dp + 1) (s.1 + 1, s.2) (by omega) (by omega) hlt67 (by simp [pNeed] at hn ⊢; omega)) lR_76 (rec_R hr) rfl (Nat.le_of_ble_eq_true rfl) rfl (Nat.le_of_ble_eq_true rfl) (fun q M1 hq => ?_)
      obtain ⟨rfl, rfl⟩ := hq
      refine ev_add dR_readCall_81 ?_
      refine ev_is dR_readCall_82 rfl (Nat.le_of_ble_eq_true rfl) ?_
      refine ev_inc1 dR_readCall_83 (by first | assumption | rfl) ?_
      refine ev_goto (tgt := 53) dR_readCall_86 (by decide) ?_
      have ho := pr_ok (nT := nT) (mk := mk) (tv := tv) (sl := sl) (nv := nv) f 0 (dp + 1) 0 0 0 (s.1 + 1, s.2)
      have ho1 : s.1 + 1 ≤ (pr nT mk tv sl nv f 0 (dp + 1) 0 0 0 (s.1 + 1, s.2)).1.1 := ho.1
      have hN1 := hN2 hu67
      refine ihL (D0 + 7) dp (N + 1) _ _ _ _ (by omega) hdp (ho.2.1 hlt67) (by simp [pNeed] at hn ⊢; omega) (by omega) (fun _ => by omega) (by first | assumption | rfl) (by first | assumption | rfl) rfl rfl ?_
      simp only [pr, h67] at hR
      simpa using hR
theorem x_all (hx : xOk Lx xs M n b r nT mk tv sl nv) : ∀ f, xSum Lx xs M r nT mk tv sl nv f ∧ xFac Lx xs M r nT mk tv sl nv f ∧ xCal Lx xs M r nT mk tv sl nv f ∧ xL3 Lx xs M r nT mk tv sl nv f ∧ xL4 Lx xs M r nT mk tv sl nv f
  | 0 => ⟨fun D dp s _ _ _ h => absurd h (Nat.not_lt_zero _), fun D dp s _ _ _ h => absurd h (Nat.not_lt_zero _), fun D dp nm s _ _ _ _ h => absurd h (Nat.not_lt_zero _), fun D dp N a b s L R _ _ _ h => absurd h (Nat.not_lt_zero _), fun D dp N a s L R _ _ _ h => absurd h (Nat.not_lt_zero _)⟩
  | f + 1 => by
    obtain ⟨h0, h1, h2, h3, h4⟩ := x_all hx f
    exact ⟨x_sum hx h1 h3, x_fac hx h0 h1 h2, x_cal hx h0 h4, x_l3 hx h1 h3, x_l4 hx h0 h4⟩
end
