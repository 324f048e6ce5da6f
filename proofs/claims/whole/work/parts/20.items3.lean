/- Reading: items, blocks, all tokens (rows laid by program) -/
theorem ev_mem {Lx : Nat} {xs : Nat → Int32} {d : Nat} {y : zY} {pc : Nat} {L : Nat → Value} {st : List Value} {M M' : zM} {Q : zQ} (h : M = M') (k : Ev Lx xs d y pc L st M' Q) : Ev Lx xs d y pc L st M Q := by subst h; exact k
def zSrc (r : Nat) (M MM : zM) : Prop := MM.2.1 = M.2.1 ∧ ∀ a i, (a = r + 1 ∨ a = r + 3 ∨ a = r + 4 ∨ a = r + 5) → MM.1 a i = M.1 a i
/-- what reading items needs of the source -/
def iOk (Lx : Nat) (xs : Nat → Int32) (M : zM) (n b r nT : Nat) (mk : Nat → Nat) (tv : Nat → Int32) (sl : Nat → Nat) (same : Nat → Nat → Bool) : Prop :=
  M.2.1 = zP0 n b ∧ zR r ∧ Mks M r nT mk ∧ ∀ MM, zSrc r M MM → (∀ d k, k < nT → Pu Lx xs d mS_lengthOf [.ref (r + 1), .int (nI k)] MM (nI (sl k))) ∧ (∀ d k, k < nT → mk k = 48 → Pu Lx xs (d + 1) mS_digitsValue [.ref (r + 1), .int (nI k)] MM (tv k)) ∧ (∀ d a z, a < nT → z < nT → Pu Lx xs d mS_areSame [.ref (r + 1), .int (nI a), .int (nI z)] MM (nI (same a z).toNat))
section
variable {Lx : Nat} {xs : Nat → Int32} {M : zM} {n b r nT : Nat} {mk : Nat → Nat} {tv : Nat → Int32} {sl : Nat → Nat} {same : Nat → Nat → Bool}
theorem Mks.R {T : pTr} (h : Mks M r nT mk) : Mks (mR M r T) r nT mk :=
  ⟨(mR_o (by omega)).trans h.1, h.2.1, fun k hk => ⟨(mR_o (by omega)).trans (h.2.2 k hk).1, (h.2.2 k hk).2⟩⟩
theorem zSrc_ER {T : pTr} {s : pE} : zSrc r M (mE (mR M r T) r s) :=
  ⟨rfl, fun a i h => (mE_o (by omega)).trans (mR_o (by omega))⟩
theorem xOk_of {T : pTr} (h : iOk Lx xs M n b r nT mk tv sl same) (hT : tOk nT T) (h1 : 1 ≤ T.1) : xOk Lx xs (mR M r T) n b r nT mk tv sl (pNvT nT mk same T) := by
  obtain ⟨hP, hr, hE, hs⟩ := h
  refine ⟨hP, hr, hE.R, fun d k s hk => (hs _ zSrc_ER).1 _ k hk, fun d k s hk hm => (hs _ zSrc_ER).2.1 _ k hk hm, fun d k s hk hm => ?_⟩
  exact c_namedValue hP hr hE.R.E ((mE_o (by omega)).trans mR_c) h1 hT.1 hk (fun k _ => (mE_o (by omega)).trans mR_F) hT.2 (fun k _ => (mE_o (by omega)).trans mR_A) (hs _ zSrc_ER).2.2
theorem pi_blk {f dp i : Nat} {s : pE} {T : pTr} (hc : ¬ (nT ≤ s.1 ∨ 160 ≤ T.1)) (hs : pS nT mk s 123 = true) : pi nT mk tv sl same (f + 1) 0 dp i s T = (((pB nT mk tv sl same f dp s (pBg T s.1 dp)).1.1, pLa (pVa (pB nT mk tv sl same f dp s (pBg T s.1 dp)).1.2 T.1 (nI (pB nT mk tv sl same f dp s (pBg T s.1 dp)).2)) T.1 (nI (pB nT mk tv sl same f dp s (pBg T s.1 dp)).1.1.1 - nI 1)), i) := by
  rw [pi, if_neg hc, if_pos hs]
  unfold pB
  split <;> rfl
theorem pi_def {f dp i : Nat} {s : pE} {T : pTr} (hc : ¬ (nT ≤ s.1 ∨ 160 ≤ T.1)) (hs : pS nT mk s 123 = false) : pi nT mk tv sl same (f + 1) 0 dp i s T = ((pN nT mk (pDef nT mk tv sl same dp s (pBg T s.1 dp)).1 59, pLa (pVa (pBg T s.1 dp) T.1 (pDef nT mk tv sl same dp s (pBg T s.1 dp)).2) T.1 (nI (pN nT mk (pDef nT mk tv sl same dp s (pBg T s.1 dp)).1 59).1 - nI 1)), i) := by
  rw [pi, if_neg hc, if_neg (by rw [hs]; decide)]
def iNeed (nT : Nat) (s : pE) : Nat := if s.2 = true then 0 else 2 * (nT - s.1) + 2
def iItm (Lx : Nat) (xs : Nat → Int32) (M : zM) (r nT : Nat) (mk : Nat → Nat) (tv : Nat → Int32) (sl : Nat → Nat) (same : Nat → Nat → Bool) (f : Nat) : Prop := ∀ (D dp : Nat) (s : pE) (T : pTr), f + 820 ≤ D → dp ≤ 12 → s.1 ≤ nT → s.2 = false → tOk nT T → 2 * (nT - s.1) + 1 < f → Ct Lx xs D mR_readItem [.ref r, .int (nI dp)] (mE (mR M r T) r s) (fun q M' => q = none ∧ M' = mE (mR M r (pi nT mk tv sl same f 0 dp 0 s T).1.2) r (pi nT mk tv sl same f 0 dp 0 s T).1.1)
def iBlk (Lx : Nat) (xs : Nat → Int32) (M : zM) (r nT : Nat) (mk : Nat → Nat) (tv : Nat → Int32) (sl : Nat → Nat) (same : Nat → Nat → Bool) (f : Nat) : Prop := ∀ (D dp : Nat) (s : pE) (T : pTr), f + 820 ≤ D → dp ≤ 12 → s.1 ≤ nT → pS nT mk s 123 = true → tOk nT T → 2 * (nT - s.1) < f → Ct Lx xs D mR_readBlock [.ref r, .int (nI dp)] (mE (mR M r T) r s) (fun q M' => q = some (nI (pB nT mk tv sl same f dp s T).2) ∧ M' = mE (mR M r (pB nT mk tv sl same f dp s T).1.2) r (pB nT mk tv sl same f dp s T).1.1)
def iLop (Lx : Nat) (xs : Nat → Int32) (M : zM) (r nT : Nat) (mk : Nat → Nat) (tv : Nat → Int32) (sl : Nat → Nat) (same : Nat → Nat → Bool) (f : Nat) : Prop := ∀ (D dp i : Nat) (s : pE) (T : pTr) (L : Nat → Value) (R : Option Int32 → zM → Prop), f + 820 ≤ D → dp < 12 → s.1 ≤ nT → tOk nT T → iNeed nT s < f → i ≤ 160 → L 0 = .ref r → L 1 = .int (nI dp) → L 2 = .int (nI i) → R (some (nI (pi nT mk tv sl same f 1 dp i s T).2)) (mE (mR M r (pi nT mk tv sl same f 1 dp i s T).1.2) r (pN nT mk (pi nT mk tv sl same f 1 dp i s T).1.1 125)) → Ev Lx xs D mR_readBlock 12 L [] (mE (mR M r T) r s) (zpost mR_readBlock R)
set_option maxRecDepth 100000 in
set_option maxHeartbeats 4000000 in
theorem i_itm (hx : iOk Lx xs M n b r nT mk tv sl same) {f : Nat} (ihB : iBlk Lx xs M r nT mk tv sl same f) : iItm Lx xs M r nT mk tv sl same (f + 1) := by
  have hi := hx
  obtain ⟨hP, hr, hE, hsrc⟩ := hx
  have hnT := hE.2.1
  intro D dp s T hD hdp hs hu hT hn
  have hT1 := hT.1
  obtain ⟨D0, rfl⟩ : ∃ D0, D = D0 + 7 := ⟨D - 7, by omega⟩
  unfold Ct
  refine ev_al dR_readItem_0 rfl (by first | assumption | rfl) ?_
  refine ev_geti dR_readItem_1 fR_25 (sh_R hr) ?_
  rw [mE_n]
  refine ev_al dR_readItem_4 rfl (by first | assumption | rfl) ?_
  refine ev_getrP dR_readItem_5 fR_12 (sh_R hr) (zq hP (pt_source hr)) ?_
  refine ev_geti dR_readItem_8 fR_36 (sh_S hr) ?_
  rw [hE.R.E.1]
  refine ev_icmp (tgt := 27) dR_readItem_11 (by decide) (fun h11 => ?_) (fun h11 => ?_)
  · try simp (disch := omega) only [zcond, nI_ltI, nI_leI, nI_eq, zb0, Classical.not_not, Bool.not_eq_false, Bool.not_eq_true, Nat.not_lt, Nat.not_le] at h11
    refine ev_al dR_readItem_27 rfl (by first | assumption | rfl) ?_
    refine ev_const (v := nI 1) dR_readItem_28 (by decide) ?_
    refine ev_puti dR_readItem_29 fR_29 fwR_stopped (sh_R hr) rfl rfl ?_
    rw [mE_S1]
    refine ev_vret dR_readItem_32 rfl ?_
    rw [show pi nT mk tv sl same (f + 1) 0 dp 0 s T = (((s.1, true), T), 0) by rw [pi, if_pos (by omega)]]
    exact ⟨rfl, rfl⟩
  · try simp (disch := omega) only [zcond, nI_ltI, nI_leI, nI_eq, zb0, Classical.not_not, Bool.not_eq_false, Bool.not_eq_true, Nat.not_lt, Nat.not_le] at h11
    refine ev_al dR_readItem_14 rfl (by first | assumption | rfl) ?_
    refine ev_getrP dR_readItem_15 fR_21 (sh_R hr) (zq hP (pt_tree hr)) ?_
    refine ev_geti dR_readItem_18 fR_33 (sh_T hr) ?_
    rw [mE_o (by omega), mR_c]
    refine ev_const (v := nI 160) dR_readItem_21 (by decide) ?_
    refine ev_icmp (tgt := 33) dR_readItem_24 (by decide) (fun h24 => ?_) (fun h24 => ?_)
    · try simp (disch := omega) only [zcond, nI_ltI, nI_leI, nI_eq, zb0, Classical.not_not, Bool.not_eq_false, Bool.not_eq_true, Nat.not_lt, Nat.not_le] at h24
      have hlt : s.1 < nT := by omega
      have hct : T.1 < 160 := by omega
      refine ev_al dR_readItem_33 rfl (by first | assumption | rfl) ?_
      refine ev_getrP dR_readItem_34 fR_21 (sh_R hr) (zq hP (pt_tree hr)) ?_
      refine ev_geti dR_readItem_37 fR_33 (sh_T hr) ?_
      rw [mE_o (by omega), mR_c]
      refine ev_is dR_readItem_40 rfl (Nat.le_of_ble_eq_true rfl) ?_
      refine ev_al dR_readItem_41 rfl (by first | assumption | rfl) ?_
      refine ev_geti dR_readItem_42 fR_25 (sh_R hr) ?_
      rw [mE_n]
      refine ev_is dR_readItem_45 rfl (Nat.le_of_ble_eq_true rfl) ?_
      refine ev_al dR_readItem_46 rfl (by first | assumption | rfl) ?_
      refine ev_getrP dR_readItem_47 fR_21 (sh_R hr) (zq hP (pt_tree hr)) ?_
      refine ev_stk dR_readItem_50 rfl ?_
      refine ev_geti dR_readItem_51 fR_33 (sh_T hr) ?_
      rw [mE_o (by omega), mR_c]
      refine ev_const (v := nI 1) dR_readItem_54 (by decide) ?_
      first | with_reducible refine ev_addN dR_readItem_55 ?_ | refine ev_add dR_readItem_55 ?_
      refine ev_puti dR_readItem_56 fR_33 fwT_count (sh_T hr) (vp_nar_int _) rfl ?_
      refine ev_mem (M' := mE (mR M r (T.1 + 1, T.2)) r s) (by rw [zIE (by omega), mR_cnt]) ?_
      refine ev_al dR_readItem_59 rfl (by first | assumption | rfl) ?_
      refine ev_getrP dR_readItem_60 fR_21 (sh_R hr) (zq hP (pt_tree hr)) ?_
      refine ev_getrP dR_readItem_63 fR_56 (sh_T hr) (zq hP (pt_firsts hr)) ?_
      refine ev_il dR_readItem_66 rfl (by first | assumption | rfl) ?_
      refine ev_il dR_readItem_67 rfl (by first | assumption | rfl) ?_
      refine ev_iastN dR_readItem_68 (sh_firsts hr) hct ?_
      refine ev_mem (M' := mE (mR M r (T.1 + 1, upd T.2.1 T.1 (nI s.1), T.2.2)) r s) (by rw [zIE (by omega), mR_first]) ?_
      refine ev_al dR_readItem_69 rfl (by first | assumption | rfl) ?_
      refine ev_getrP dR_readItem_70 fR_21 (sh_R hr) (zq hP (pt_tree hr)) ?_
      refine ev_getrP dR_readItem_73 fR_60 (sh_T hr) (zq hP (pt_levels hr)) ?_
      refine ev_il dR_readItem_76 rfl (by first | assumption | rfl) ?_
      refine ev_il dR_readItem_77 rfl (by first | assumption | rfl) ?_
      refine ev_iastN dR_readItem_78 (sh_levels hr) hct ?_
      refine ev_mem (M' := (mE (mR M r (pBg T s.1 dp)) r s)) (by rw [zIE (by omega), mR_level]; rfl) ?_
      refine ev_al dR_readItem_79 rfl (by first | assumption | rfl) ?_
      refine ev_const (v := nI 123) dR_readItem_80 (by decide) ?_
      refine ev_pV dR_readItem_82 (c_sees (M := mR M r (pBg T s.1 dp)) hP hr hE.R (by omega) (by decide)) lR_52 (rec_R hr) rfl (Nat.le_of_ble_eq_true rfl) rfl (Nat.le_of_ble_eq_true rfl) ?_
      refine ev_if0 (tgt := 105) dR_readItem_85 (by decide) (fun h85 => ?_) (fun h85 => ?_)
      · try simp (disch := omega) only [zcond, nI_ltI, nI_leI, nI_eq, zb0, Classical.not_not, Bool.not_eq_false, Bool.not_eq_true, Nat.not_lt, Nat.not_le] at h85
        refine ev_al dR_readItem_105 rfl (by first | assumption | rfl) ?_
        refine ev_const (v := nI 97) dR_readItem_106 (by decide) ?_
        refine ev_cV dR_readItem_108 (c_needs (M := mR M r (pBg T s.1 dp)) hP hr hE.R (by omega) (by decide)) lR_69 (rec_R hr) rfl (Nat.le_of_ble_eq_true rfl) rfl (Nat.le_of_ble_eq_true rfl) (fun q M1 hq => ?_)
        obtain ⟨rfl, rfl⟩ := hq
        have hsN : (pN nT mk s 97).1 ≤ nT := (pN_ok s 97).2.1 hs
        refine ev_al dR_readItem_111 rfl (by first | assumption | rfl) ?_
        refine ev_getrP dR_readItem_112 fR_21 (sh_R hr) (zq hP (pt_tree hr)) ?_
        refine ev_getrP dR_readItem_115 fR_63 (sh_T hr) (zq hP (pt_values hr)) ?_
        refine ev_il dR_readItem_118 rfl (by first | assumption | rfl) ?_
        refine ev_al dR_readItem_119 rfl (by first | assumption | rfl) ?_
        refine ev_const (v := nI 61) dR_readItem_120 (by decide) ?_
        refine ev_cV dR_readItem_122 (c_takes (M := mR M r (pBg T s.1 dp)) (s := (pN nT mk s 97)) hP hr hE.R (by omega) (by decide)) lR_73 (rec_R hr) rfl (Nat.le_of_ble_eq_true rfl) rfl (Nat.le_of_ble_eq_true rfl) (fun q M1 hq => ?_)
        obtain ⟨rfl, rfl⟩ := hq
        refine ev_if0 (tgt := 136) dR_readItem_125 (by decide) (fun h125 => ?_) (fun h125 => ?_)
        · try simp (disch := omega) only [zcond, nI_ltI, nI_leI, nI_eq, zb0, Classical.not_not, Bool.not_eq_false, Bool.not_eq_true, Nat.not_lt, Nat.not_le] at h125
          first | rw [pT_t h125] | rw [pT_f h125]
          try obtain ⟨hu125, hlt125, hmk125⟩ := pS_iff.mp h125
          refine ev_al dR_readItem_136 rfl (by first | assumption | rfl) ?_
          refine ev_il dR_readItem_137 rfl (by first | assumption | rfl) ?_
          refine ev_il dR_readItem_138 rfl (by first | assumption | rfl) ?_
          refine ev_cV dR_readItem_139 ((x_all (xOk_of hi (hT.bg (dp := dp) hlt hct) (Nat.le_add_left 1 T.1)) 810).2.2.1 (D0 + 6) dp s.1 (pN nT mk s 97) (by omega) hdp hlt hsN (by simp [pNeed]; omega)) lR_79 (rec_R hr) rfl (Nat.le_of_ble_eq_true rfl) rfl (Nat.le_of_ble_eq_true rfl) (fun q M1 hq => ?_)
          obtain ⟨rfl, rfl⟩ := hq
          refine ev_iastN dR_readItem_142 (sh_values hr) hct ?_
          refine ev_mem (M' := mE (mR M r (pVa (pBg T s.1 dp) T.1 (pDef nT mk tv sl same dp s (pBg T s.1 dp)).2)) r (pDef nT mk tv sl same dp s (pBg T s.1 dp)).1) (by rw [zIE (by omega), mR_value]; unfold pDef; first | rw [if_pos h125] | rw [if_neg (by rw [h125]; decide)]) ?_
          refine ev_al dR_readItem_143 rfl (by first | assumption | rfl) ?_
          refine ev_const (v := nI 59) dR_readItem_144 (by decide) ?_
          refine ev_cV dR_readItem_146 (c_needs (M := mR M r (pVa (pBg T s.1 dp) T.1 (pDef nT mk tv sl same dp s (pBg T s.1 dp)).2)) hP hr hE.R (Nat.lt_of_le_of_lt ((pDef_ok dp s (pBg T s.1 dp)).2.1 hs) (by omega)) (by decide)) lR_69 (rec_R hr) rfl (Nat.le_of_ble_eq_true rfl) rfl (Nat.le_of_ble_eq_true rfl) (fun q M1 hq => ?_)
          obtain ⟨rfl, rfl⟩ := hq
          refine ev_al dR_readItem_149 rfl (by first | assumption | rfl) ?_
          refine ev_getrP dR_readItem_150 fR_21 (sh_R hr) (zq hP (pt_tree hr)) ?_
          refine ev_getrP dR_readItem_153 fR_83 (sh_T hr) (zq hP (pt_lasts hr)) ?_
          refine ev_il dR_readItem_156 rfl (by first | assumption | rfl) ?_
          refine ev_al dR_readItem_157 rfl (by first | assumption | rfl) ?_
          refine ev_geti dR_readItem_158 fR_25 (sh_R hr) ?_
          rw [mE_n]
          refine ev_const (v := nI 1) dR_readItem_161 (by decide) ?_
          refine ev_sub dR_readItem_162 ?_
          refine ev_iastN dR_readItem_163 (sh_lasts hr) hct ?_
          refine ev_vret dR_readItem_164 rfl ?_
          refine ⟨rfl, ?_⟩
          rw [zIE (by omega), mR_last]
          first | rw [pi_blk (by omega) h85] | rw [pi_def (by omega) h85]
        · try simp (disch := omega) only [zcond, nI_ltI, nI_leI, nI_eq, zb0, Classical.not_not, Bool.not_eq_false, Bool.not_eq_true, Nat.not_lt, Nat.not_le] at h125
          first | rw [pT_t h125] | rw [pT_f h125]
          try obtain ⟨hu125, hlt125, hmk125⟩ := pS_iff.mp h125
          refine ev_al dR_readItem_128 rfl (by first | assumption | rfl) ?_
          refine ev_il dR_readItem_129 rfl (by first | assumption | rfl) ?_
          refine ev_cV dR_readItem_130 ((x_all (xOk_of hi (hT.bg (dp := dp) hlt hct) (Nat.le_add_left 1 T.1)) 810).1 (D0 + 6) dp ((pN nT mk s 97).1 + 1, (pN nT mk s 97).2) (by omega) hdp hlt125 (by simp [pNeed]; omega)) lR_76 (rec_R hr) rfl (Nat.le_of_ble_eq_true rfl) rfl (Nat.le_of_ble_eq_true rfl) (fun q M1 hq => ?_)
          obtain ⟨rfl, rfl⟩ := hq
          refine ev_goto (tgt := 142) dR_readItem_133 (by decide) ?_
          refine ev_iastN dR_readItem_142 (sh_values hr) hct ?_
          refine ev_mem (M' := mE (mR M r (pVa (pBg T s.1 dp) T.1 (pDef nT mk tv sl same dp s (pBg T s.1 dp)).2)) r (pDef nT mk tv sl same dp s (pBg T s.1 dp)).1) (by rw [zIE (by omega), mR_value]; unfold pDef; first | rw [if_pos h125] | rw [if_neg (by rw [h125]; decide)]) ?_
          refine ev_al dR_readItem_143 rfl (by first | assumption | rfl) ?_
          refine ev_const (v := nI 59) dR_readItem_144 (by decide) ?_
          refine ev_cV dR_readItem_146 (c_needs (M := mR M r (pVa (pBg T s.1 dp) T.1 (pDef nT mk tv sl same dp s (pBg T s.1 dp)).2)) hP hr hE.R (Nat.lt_of_le_of_lt ((pDef_ok dp s (pBg T s.1 dp)).2.1 hs) (by omega)) (by decide)) lR_69 (rec_R hr) rfl (Nat.le_of_ble_eq_true rfl) rfl (Nat.le_of_ble_eq_true rfl) (fun q M1 hq => ?_)
          obtain ⟨rfl, rfl⟩ := hq
          refine ev_al dR_readItem_149 rfl (by first | assumption | rfl) ?_
          refine ev_getrP dR_readItem_150 fR_21 (sh_R hr) (zq hP (pt_tree hr)) ?_
          refine ev_getrP dR_readItem_153 fR_83 (sh_T hr) (zq hP (pt_lasts hr)) ?_
          refine ev_il dR_readItem_156 rfl (by first | assumption | rfl) ?_
          refine ev_al dR_readItem_157 rfl (by first | assumption | rfl) ?_
          refine ev_geti dR_readItem_158 fR_25 (sh_R hr) ?_
          rw [mE_n]
          refine ev_const (v := nI 1) dR_readItem_161 (by decide) ?_
          refine ev_sub dR_readItem_162 ?_
          refine ev_iastN dR_readItem_163 (sh_lasts hr) hct ?_
          refine ev_vret dR_readItem_164 rfl ?_
          refine ⟨rfl, ?_⟩
          rw [zIE (by omega), mR_last]
          first | rw [pi_blk (by omega) h85] | rw [pi_def (by omega) h85]
      · try simp (disch := omega) only [zcond, nI_ltI, nI_leI, nI_eq, zb0, Classical.not_not, Bool.not_eq_false, Bool.not_eq_true, Nat.not_lt, Nat.not_le] at h85
        refine ev_al dR_readItem_88 rfl (by first | assumption | rfl) ?_
        refine ev_getrP dR_readItem_89 fR_21 (sh_R hr) (zq hP (pt_tree hr)) ?_
        refine ev_getrP dR_readItem_92 fR_63 (sh_T hr) (zq hP (pt_values hr)) ?_
        refine ev_il dR_readItem_95 rfl (by first | assumption | rfl) ?_
        refine ev_al dR_readItem_96 rfl (by first | assumption | rfl) ?_
        refine ev_il dR_readItem_97 rfl (by first | assumption | rfl) ?_
        refine ev_cV dR_readItem_98 (ihB (D0 + 6) dp s (pBg T s.1 dp) (by omega) hdp hs h85 (hT.bg hlt hct) (by omega)) lR_66 (rec_R hr) rfl (Nat.le_of_ble_eq_true rfl) rfl (Nat.le_of_ble_eq_true rfl) (fun q M1 hq => ?_)
        obtain ⟨rfl, rfl⟩ := hq
        refine ev_iastN dR_readItem_101 (sh_values hr) hct ?_
        refine ev_mem (M' := mE (mR M r (pVa (pB nT mk tv sl same f dp s (pBg T s.1 dp)).1.2 T.1 (nI (pB nT mk tv sl same f dp s (pBg T s.1 dp)).2))) r (pB nT mk tv sl same f dp s (pBg T s.1 dp)).1.1) (by rw [zIE (by omega), mR_value]) ?_
        refine ev_goto (tgt := 149) dR_readItem_102 (by decide) ?_
        refine ev_al dR_readItem_149 rfl (by first | assumption | rfl) ?_
        refine ev_getrP dR_readItem_150 fR_21 (sh_R hr) (zq hP (pt_tree hr)) ?_
        refine ev_getrP dR_readItem_153 fR_83 (sh_T hr) (zq hP (pt_lasts hr)) ?_
        refine ev_il dR_readItem_156 rfl (by first | assumption | rfl) ?_
        refine ev_al dR_readItem_157 rfl (by first | assumption | rfl) ?_
        refine ev_geti dR_readItem_158 fR_25 (sh_R hr) ?_
        rw [mE_n]
        refine ev_const (v := nI 1) dR_readItem_161 (by decide) ?_
        refine ev_sub dR_readItem_162 ?_
        refine ev_iastN dR_readItem_163 (sh_lasts hr) hct ?_
        refine ev_vret dR_readItem_164 rfl ?_
        refine ⟨rfl, ?_⟩
        rw [zIE (by omega), mR_last]
        first | rw [pi_blk (by omega) h85] | rw [pi_def (by omega) h85]
    · try simp (disch := omega) only [zcond, nI_ltI, nI_leI, nI_eq, zb0, Classical.not_not, Bool.not_eq_false, Bool.not_eq_true, Nat.not_lt, Nat.not_le] at h24
      refine ev_al dR_readItem_27 rfl (by first | assumption | rfl) ?_
      refine ev_const (v := nI 1) dR_readItem_28 (by decide) ?_
      refine ev_puti dR_readItem_29 fR_29 fwR_stopped (sh_R hr) rfl rfl ?_
      rw [mE_S1]
      refine ev_vret dR_readItem_32 rfl ?_
      rw [show pi nT mk tv sl same (f + 1) 0 dp 0 s T = (((s.1, true), T), 0) by rw [pi, if_pos (by omega)]]
      exact ⟨rfl, rfl⟩
set_option maxRecDepth 100000 in
set_option maxHeartbeats 4000000 in
theorem i_blk (hx : iOk Lx xs M n b r nT mk tv sl same) {f : Nat} (ihL : iLop Lx xs M r nT mk tv sl same f) : iBlk Lx xs M r nT mk tv sl same f := by
  have hi := hx
  obtain ⟨hP, hr, hE, hsrc⟩ := hx
  have hnT := hE.2.1
  intro D dp s T hD hdp hs h123 hT hn
  obtain ⟨D0, rfl⟩ : ∃ D0, D = D0 + 7 := ⟨D - 7, by omega⟩
  unfold Ct
  refine ev_const (v := nI 0) dR_readBlock_0 (by decide) ?_
  refine ev_is dR_readBlock_1 rfl (Nat.le_of_ble_eq_true rfl) ?_
  refine ev_al dR_readBlock_2 rfl (by first | assumption | rfl) ?_
  refine ev_const (v := nI 123) dR_readBlock_3 (by decide) ?_
  refine ev_il dR_readBlock_5 rfl (by first | assumption | rfl) ?_
  refine ev_cV dR_readBlock_6 (c_opens hP hr hE.R (by omega) (by decide) (by omega)) lR_86 (rec_R hr) rfl (Nat.le_of_ble_eq_true rfl) rfl (Nat.le_of_ble_eq_true rfl) (fun q M1 hq => ?_)
  obtain ⟨rfl, rfl⟩ := hq
  refine ev_if0 (tgt := 54) dR_readBlock_9 (by decide) (fun h9 => ?_) (fun h9 => ?_)
  · try simp (disch := omega) only [zcond, nI_ltI, nI_leI, nI_eq, zb0, Classical.not_not, Bool.not_eq_false, Bool.not_eq_true, Nat.not_lt, Nat.not_le] at h9
    refine ev_il dR_readBlock_54 rfl (by first | assumption | rfl) ?_
    refine ev_ret dR_readBlock_55 rfl rfl ?_
    unfold pB
    rw [if_neg (by rw [h9]; decide)]
    exact ⟨rfl, rfl⟩
  · try simp (disch := omega) only [zcond, nI_ltI, nI_leI, nI_eq, zb0, Classical.not_not, Bool.not_eq_false, Bool.not_eq_true, Nat.not_lt, Nat.not_le] at h9
    obtain ⟨ho1, ho2, ho3⟩ := pOb_t h9
    rw [ho3]
    obtain ⟨hu9, hlt9, hmk9⟩ := pS_iff.mp ho1
    refine ihL (D0 + 7) dp 0 (s.1 + 1, s.2) T _ _ (by omega) ho2 hlt9 hT (by simp [iNeed, hu9]; omega) (by omega) rfl rfl rfl ?_
    unfold pB
    rw [if_pos h9]
    exact ⟨rfl, rfl⟩
set_option maxRecDepth 100000 in
set_option maxHeartbeats 4000000 in
theorem i_lop (hx : iOk Lx xs M n b r nT mk tv sl same) {f : Nat} (ihI : iItm Lx xs M r nT mk tv sl same f) (ihL : iLop Lx xs M r nT mk tv sl same f) : iLop Lx xs M r nT mk tv sl same (f + 1) := by
  have hi := hx
  obtain ⟨hP, hr, hE, hsrc⟩ := hx
  have hnT := hE.2.1
  intro D dp i s T L R hD hdp hs hT hn hi160 hL0 hL1 hL2 hR
  obtain ⟨D0, rfl⟩ : ∃ D0, D = D0 + 7 := ⟨D - 7, by omega⟩
  refine ev_il dR_readBlock_12 rfl (by first | assumption | rfl) ?_
  refine ev_const (v := nI 160) dR_readBlock_13 (by decide) ?_
  refine ev_icmp (tgt := 48) dR_readBlock_16 (by decide) (fun h16 => ?_) (fun h16 => ?_)
  · try simp (disch := omega) only [zcond, nI_ltI, nI_leI, nI_eq, zb0, Classical.not_not, Bool.not_eq_false, Bool.not_eq_true, Nat.not_lt, Nat.not_le] at h16
    refine ev_al dR_readBlock_48 rfl (by first | assumption | rfl) ?_
    refine ev_const (v := nI 125) dR_readBlock_49 (by decide) ?_
    refine ev_cV dR_readBlock_51 (c_needs hP hr hE.R (by omega) (by decide)) lR_69 (rec_R hr) rfl (Nat.le_of_ble_eq_true rfl) rfl (Nat.le_of_ble_eq_true rfl) (fun q M1 hq => ?_)
    obtain ⟨rfl, rfl⟩ := hq
    refine ev_il dR_readBlock_54 rfl (by first | assumption | rfl) ?_
    refine ev_ret dR_readBlock_55 rfl rfl ?_
    rw [show pi nT mk tv sl same (f + 1) 1 dp i s T = ((s, T), i) by
      rw [pi]
      · rw [if_pos (by first | exact Or.inl (by omega) | exact Or.inr (Or.inl h23) | exact Or.inr (Or.inr h32))]
      · omega] at hR
    exact hR
  · try simp (disch := omega) only [zcond, nI_ltI, nI_leI, nI_eq, zb0, Classical.not_not, Bool.not_eq_false, Bool.not_eq_true, Nat.not_lt, Nat.not_le] at h16
    refine ev_al dR_readBlock_19 rfl (by first | assumption | rfl) ?_
    refine ev_geti dR_readBlock_20 fR_29 (sh_R hr) ?_
    rw [mE_s]
    refine ev_if0 (tgt := 48) dR_readBlock_23 (by decide) (fun h23 => ?_) (fun h23 => ?_)
    · try simp (disch := omega) only [zcond, nI_ltI, nI_leI, nI_eq, zb0, Classical.not_not, Bool.not_eq_false, Bool.not_eq_true, Nat.not_lt, Nat.not_le] at h23
      refine ev_al dR_readBlock_48 rfl (by first | assumption | rfl) ?_
      refine ev_const (v := nI 125) dR_readBlock_49 (by decide) ?_
      refine ev_cV dR_readBlock_51 (c_needs hP hr hE.R (by omega) (by decide)) lR_69 (rec_R hr) rfl (Nat.le_of_ble_eq_true rfl) rfl (Nat.le_of_ble_eq_true rfl) (fun q M1 hq => ?_)
      obtain ⟨rfl, rfl⟩ := hq
      refine ev_il dR_readBlock_54 rfl (by first | assumption | rfl) ?_
      refine ev_ret dR_readBlock_55 rfl rfl ?_
      rw [show pi nT mk tv sl same (f + 1) 1 dp i s T = ((s, T), i) by
        rw [pi]
        · rw [if_pos (by first | exact Or.inl (by omega) | exact Or.inr (Or.inl h23) | exact Or.inr (Or.inr h32))]
        · omega] at hR
      exact hR
    · try simp (disch := omega) only [zcond, nI_ltI, nI_leI, nI_eq, zb0, Classical.not_not, Bool.not_eq_false, Bool.not_eq_true, Nat.not_lt, Nat.not_le] at h23
      refine ev_al dR_readBlock_26 rfl (by first | assumption | rfl) ?_
      refine ev_const (v := nI 125) dR_readBlock_27 (by decide) ?_
      refine ev_pV dR_readBlock_29 (c_sees hP hr hE.R (by omega) (by decide)) lR_52 (rec_R hr) rfl (Nat.le_of_ble_eq_true rfl) rfl (Nat.le_of_ble_eq_true rfl) ?_
      refine ev_if0 (tgt := 48) dR_readBlock_32 (by decide) (fun h32 => ?_) (fun h32 => ?_)
      · try simp (disch := omega) only [zcond, nI_ltI, nI_leI, nI_eq, zb0, Classical.not_not, Bool.not_eq_false, Bool.not_eq_true, Nat.not_lt, Nat.not_le] at h32
        refine ev_al dR_readBlock_48 rfl (by first | assumption | rfl) ?_
        refine ev_const (v := nI 125) dR_readBlock_49 (by decide) ?_
        refine ev_cV dR_readBlock_51 (c_needs hP hr hE.R (by omega) (by decide)) lR_69 (rec_R hr) rfl (Nat.le_of_ble_eq_true rfl) rfl (Nat.le_of_ble_eq_true rfl) (fun q M1 hq => ?_)
        obtain ⟨rfl, rfl⟩ := hq
        refine ev_il dR_readBlock_54 rfl (by first | assumption | rfl) ?_
        refine ev_ret dR_readBlock_55 rfl rfl ?_
        rw [show pi nT mk tv sl same (f + 1) 1 dp i s T = ((s, T), i) by
          rw [pi]
          · rw [if_pos (by first | exact Or.inl (by omega) | exact Or.inr (Or.inl h23) | exact Or.inr (Or.inr h32))]
          · omega] at hR
        exact hR
      · try simp (disch := omega) only [zcond, nI_ltI, nI_leI, nI_eq, zb0, Classical.not_not, Bool.not_eq_false, Bool.not_eq_true, Nat.not_lt, Nat.not_le] at h32
        refine ev_al dR_readBlock_35 rfl (by first | assumption | rfl) ?_
        refine ev_il dR_readBlock_36 rfl (by first | assumption | rfl) ?_
        refine ev_const (v := nI 1) dR_readBlock_37 (by decide) ?_
        first | with_reducible refine ev_addN dR_readBlock_38 ?_ | refine ev_add dR_readBlock_38 ?_
        refine ev_cV dR_readBlock_39 (ihI (D0 + 6) (dp + 1) s T (by omega) (by omega) hs h23 hT (by simp [iNeed, h23] at hn; omega)) lR_37 (rec_R hr) rfl (Nat.le_of_ble_eq_true rfl) rfl (Nat.le_of_ble_eq_true rfl) (fun q M1 hq => ?_)
        obtain ⟨rfl, rfl⟩ := hq
        refine ev_inc1 dR_readBlock_42 (by first | assumption | rfl) ?_
        refine ev_goto (tgt := 12) dR_readBlock_45 (by decide) ?_
        obtain ⟨g1, g2, g3⟩ := pi_ok (nT := nT) (mk := mk) (tv := tv) (sl := sl) (same := same) f 0 (dp + 1) 0 s T
        refine ihL (D0 + 7) dp (i + 1) (pi nT mk tv sl same f 0 (dp + 1) 0 s T).1.1 (pi nT mk tv sl same f 0 (dp + 1) 0 s T).1.2 _ _ (by omega) hdp (g1.2.1 hs) (g2 hT) ?_ (by omega) (by first | assumption | rfl) (by first | assumption | rfl) rfl ?_
        · simp [iNeed, h23] at hn
          unfold iNeed
          split
          · omega
          · rename_i hz
            obtain ⟨f', rfl⟩ : ∃ f', f = f' + 1 := ⟨f - 1, by omega⟩
            have := pi_one (nT := nT) (mk := mk) (tv := tv) (sl := sl) (same := same) (Bool.eq_false_iff.mpr hz)
            have := g1.2.1 hs
            omega
        · rw [pi, if_neg (by rw [h23, h32]; simp; omega)] at hR
          · exact hR
          · omega
theorem i_all (hx : iOk Lx xs M n b r nT mk tv sl same) : ∀ f, iItm Lx xs M r nT mk tv sl same f ∧ iLop Lx xs M r nT mk tv sl same f
  | 0 => ⟨fun D dp s T _ _ _ _ _ h => absurd h (Nat.not_lt_zero _), fun D dp i s T L R _ _ _ _ h => absurd h (Nat.not_lt_zero _)⟩
  | f + 1 => by
    obtain ⟨h0, h1⟩ := i_all hx f
    exact ⟨i_itm hx (i_blk hx h1), i_lop hx h0 h1⟩
/-- all items, one behind another; what is inside an item that isn't whole goes with it -/
def pA (nT : Nat) (mk : Nat → Nat) (tv : Nat → Int32) (sl : Nat → Nat) (same : Nat → Nat → Bool) : Nat → Nat → pE → pTr → pE × pTr
  | 0, _, s, T => (s, T)
  | f + 1, i, s, T => if 160 ≤ i ∨ nT ≤ s.1 ∨ s.2 = true then (s, T) else pA nT mk tv sl same f (i + 1) (pi nT mk tv sl same 330 0 0 0 s T).1.1 (if (pi nT mk tv sl same 330 0 0 0 s T).1.1.2 = true then (T.1, (pi nT mk tv sl same 330 0 0 0 s T).1.2.2) else (pi nT mk tv sl same 330 0 0 0 s T).1.2)
set_option maxRecDepth 100000 in
set_option maxHeartbeats 4000000 in
theorem l_readTokens (hx : iOk Lx xs M n b r nT mk tv sl same) {D0 : Nat} {R : Option Int32 → zM → Prop} : ∀ (f i : Nat) (s : pE) (T : pTr) (L : Nat → Value), s.1 ≤ nT → tOk nT T → i + f = 160 → L 0 = .ref r → L 1 = .int (nI i) → R none (mE (mR M r (pA nT mk tv sl same f i s T).2) r (pA nT mk tv sl same f i s T).1) → Ev Lx xs (D0 + 1151) mR_readTokens 20 L [] (mE (mR M r T) r s) (zpost mR_readTokens R) := by
  have hi := hx
  obtain ⟨hP, hr, hE, hsrc⟩ := hx
  have hnT := hE.2.1
  intro f
  induction f with
  | zero =>
    intro i s T L hs hT hf hL0 hL1 hR
    refine ev_il dR_readTokens_20 rfl (by first | assumption | rfl) ?_
    refine ev_const (v := nI 160) dR_readTokens_21 (by decide) ?_
    refine ev_icmp (tgt := 82) dR_readTokens_24 (by decide) (fun h24 => ?_) (fun h24 => ?_)
    · try simp (disch := omega) only [zcond, nI_ltI, nI_leI, nI_eq, zb0, Classical.not_not, Bool.not_eq_false, Bool.not_eq_true, Nat.not_lt, Nat.not_le] at h24
      refine ev_vret dR_readTokens_82 rfl ?_
      exact hR
    · first | omega | (simp (disch := omega) only [zcond, nI_ltI, nI_leI, nI_eq] at h24; omega)
  | succ f ih =>
    intro i s T L hs hT hf hL0 hL1 hR
    refine ev_il dR_readTokens_20 rfl (by first | assumption | rfl) ?_
    refine ev_const (v := nI 160) dR_readTokens_21 (by decide) ?_
    refine ev_icmp (tgt := 82) dR_readTokens_24 (by decide) (fun h24 => ?_) (fun h24 => ?_)
    · try simp (disch := omega) only [zcond, nI_ltI, nI_leI, nI_eq, zb0, Classical.not_not, Bool.not_eq_false, Bool.not_eq_true, Nat.not_lt, Nat.not_le] at h24
      refine ev_vret dR_readTokens_82 rfl ?_
      rw [show pA nT mk tv sl same (f + 1) i s T = (s, T) by
        rw [pA, if_pos (by first | exact Or.inl (by omega) | exact Or.inr (Or.inl h38) | exact Or.inr (Or.inr h45))]] at hR
      exact hR
    · try simp (disch := omega) only [zcond, nI_ltI, nI_leI, nI_eq, zb0, Classical.not_not, Bool.not_eq_false, Bool.not_eq_true, Nat.not_lt, Nat.not_le] at h24
      refine ev_al dR_readTokens_27 rfl (by first | assumption | rfl) ?_
      refine ev_geti dR_readTokens_28 fR_25 (sh_R hr) ?_
      rw [mE_n]
      refine ev_al dR_readTokens_31 rfl (by first | assumption | rfl) ?_
      refine ev_getrP dR_readTokens_32 fR_12 (sh_R hr) (zq hP (pt_source hr)) ?_
      refine ev_geti dR_readTokens_35 fR_36 (sh_S hr) ?_
      rw [hE.R.E.1]
      refine ev_icmp (tgt := 82) dR_readTokens_38 (by decide) (fun h38 => ?_) (fun h38 => ?_)
      · try simp (disch := omega) only [zcond, nI_ltI, nI_leI, nI_eq, zb0, Classical.not_not, Bool.not_eq_false, Bool.not_eq_true, Nat.not_lt, Nat.not_le] at h38
        refine ev_vret dR_readTokens_82 rfl ?_
        rw [show pA nT mk tv sl same (f + 1) i s T = (s, T) by
          rw [pA, if_pos (by first | exact Or.inl (by omega) | exact Or.inr (Or.inl h38) | exact Or.inr (Or.inr h45))]] at hR
        exact hR
      · try simp (disch := omega) only [zcond, nI_ltI, nI_leI, nI_eq, zb0, Classical.not_not, Bool.not_eq_false, Bool.not_eq_true, Nat.not_lt, Nat.not_le] at h38
        refine ev_al dR_readTokens_41 rfl (by first | assumption | rfl) ?_
        refine ev_geti dR_readTokens_42 fR_29 (sh_R hr) ?_
        rw [mE_s]
        refine ev_if0 (tgt := 82) dR_readTokens_45 (by decide) (fun h45 => ?_) (fun h45 => ?_)
        · try simp (disch := omega) only [zcond, nI_ltI, nI_leI, nI_eq, zb0, Classical.not_not, Bool.not_eq_false, Bool.not_eq_true, Nat.not_lt, Nat.not_le] at h45
          refine ev_vret dR_readTokens_82 rfl ?_
          rw [show pA nT mk tv sl same (f + 1) i s T = (s, T) by
            rw [pA, if_pos (by first | exact Or.inl (by omega) | exact Or.inr (Or.inl h38) | exact Or.inr (Or.inr h45))]] at hR
          exact hR
        · try simp (disch := omega) only [zcond, nI_ltI, nI_leI, nI_eq, zb0, Classical.not_not, Bool.not_eq_false, Bool.not_eq_true, Nat.not_lt, Nat.not_le] at h45
          refine ev_al dR_readTokens_48 rfl (by first | assumption | rfl) ?_
          refine ev_getrP dR_readTokens_49 fR_21 (sh_R hr) (zq hP (pt_tree hr)) ?_
          refine ev_geti dR_readTokens_52 fR_33 (sh_T hr) ?_
          rw [mE_o (by omega), mR_c]
          refine ev_is dR_readTokens_55 rfl (Nat.le_of_ble_eq_true rfl) ?_
          refine ev_al dR_readTokens_56 rfl (by first | assumption | rfl) ?_
          refine ev_const (v := nI 0) dR_readTokens_57 (by decide) ?_
          refine ev_cV dR_readTokens_58 ((i_all hi 330).1 (D0 + 1150) 0 s T (by omega) (by omega) hs h45 hT (by omega)) lR_37 (rec_R hr) rfl (Nat.le_of_ble_eq_true rfl) rfl (Nat.le_of_ble_eq_true rfl) (fun q M1 hq => ?_)
          obtain ⟨rfl, rfl⟩ := hq
          refine ev_al dR_readTokens_61 rfl (by first | assumption | rfl) ?_
          refine ev_geti dR_readTokens_62 fR_29 (sh_R hr) ?_
          rw [mE_s]
          refine ev_if0 (tgt := 76) dR_readTokens_65 (by decide) (fun h65 => ?_) (fun h65 => ?_)
          · try simp (disch := omega) only [zcond, nI_ltI, nI_leI, nI_eq, zb0, Classical.not_not, Bool.not_eq_false, Bool.not_eq_true, Nat.not_lt, Nat.not_le] at h65
            try refine ev_mem (M' := mE (mR M r (T.1, (pi nT mk tv sl same 330 0 0 0 s T).1.2.2)) r (pi nT mk tv sl same 330 0 0 0 s T).1.1) (by rw [zIE (by omega), mR_cnt]) ?_
            refine ev_inc1 dR_readTokens_76 (by first | assumption | rfl) ?_
            refine ev_goto (tgt := 20) dR_readTokens_79 (by decide) ?_
            obtain ⟨g1, g2, g3⟩ := pi_ok (nT := nT) (mk := mk) (tv := tv) (sl := sl) (same := same) 330 0 0 0 s T
            have hgg := (g2 hT)
            refine ih (i + 1) (pi nT mk tv sl same 330 0 0 0 s T).1.1 _ _ (g1.2.1 hs) ?_ (by omega) (by first | assumption | rfl) rfl ?_
            · first
              | exact hgg
              | (refine ⟨hT.1, fun k hk => hgg.2 k (Nat.lt_of_lt_of_le hk g3)⟩)
            · rw [pA, if_neg (by rw [h45]; simp; omega)] at hR
              first | (rw [if_pos h65] at hR; exact hR) | (rw [if_neg (by rw [h65]; decide)] at hR; exact hR)
          · try simp (disch := omega) only [zcond, nI_ltI, nI_leI, nI_eq, zb0, Classical.not_not, Bool.not_eq_false, Bool.not_eq_true, Nat.not_lt, Nat.not_le] at h65
            refine ev_al dR_readTokens_68 rfl (by first | assumption | rfl) ?_
            refine ev_getrP dR_readTokens_69 fR_21 (sh_R hr) (zq hP (pt_tree hr)) ?_
            refine ev_il dR_readTokens_72 rfl (by first | assumption | rfl) ?_
            refine ev_puti dR_readTokens_73 fR_33 fwT_count (sh_T hr) (vp_nar_int _) rfl ?_
            try refine ev_mem (M' := mE (mR M r (T.1, (pi nT mk tv sl same 330 0 0 0 s T).1.2.2)) r (pi nT mk tv sl same 330 0 0 0 s T).1.1) (by rw [zIE (by omega), mR_cnt]) ?_
            refine ev_inc1 dR_readTokens_76 (by first | assumption | rfl) ?_
            refine ev_goto (tgt := 20) dR_readTokens_79 (by decide) ?_
            obtain ⟨g1, g2, g3⟩ := pi_ok (nT := nT) (mk := mk) (tv := tv) (sl := sl) (same := same) 330 0 0 0 s T
            have hgg := (g2 hT)
            refine ih (i + 1) (pi nT mk tv sl same 330 0 0 0 s T).1.1 _ _ (g1.2.1 hs) ?_ (by omega) (by first | assumption | rfl) rfl ?_
            · first
              | exact hgg
              | (refine ⟨hT.1, fun k hk => hgg.2 k (Nat.lt_of_lt_of_le hk g3)⟩)
            · rw [pA, if_neg (by rw [h45]; simp; omega)] at hR
              first | (rw [if_pos h65] at hR; exact hR) | (rw [if_neg (by rw [h65]; decide)] at hR; exact hR)
/-- the tree of a reading before it is read: its rows as they stand -/
def tOf (M : zM) (r : Nat) : pTr := (0, M.1 (r + 6), M.1 (r + 7), M.1 (r + 8), M.1 (r + 9))
set_option maxRecDepth 100000 in
set_option maxHeartbeats 4000000 in
theorem c_readTokens (hx : iOk Lx xs M n b r nT mk tv sl same) {D0 : Nat} : Ct Lx xs (D0 + 1151) mR_readTokens [.ref r] M (fun q M' => q = none ∧ M' = mE (mR M r (pA nT mk tv sl same 160 0 (0, false) (tOf M r)).2) r (pA nT mk tv sl same 160 0 (0, false) (tOf M r)).1) := by
  unfold Ct
  have hx := hx
  obtain ⟨hP, hr, hE, hsrc⟩ := id hx
  have hnT := hE.2.1
  refine ev_al dR_readTokens_0 rfl (by first | assumption | rfl) ?_
  refine ev_const (v := nI 0) dR_readTokens_1 (by decide) ?_
  refine ev_puti dR_readTokens_2 fR_25 fwR_next (sh_R hr) (vp_nar_int _) rfl ?_
  refine ev_al dR_readTokens_5 rfl (by first | assumption | rfl) ?_
  refine ev_const (v := nI 0) dR_readTokens_6 (by decide) ?_
  refine ev_puti dR_readTokens_7 fR_29 fwR_stopped (sh_R hr) rfl rfl ?_
  refine ev_al dR_readTokens_10 rfl (by first | assumption | rfl) ?_
  refine ev_getrP dR_readTokens_11 fR_21 (sh_R hr) (zq hP (pt_tree hr)) ?_
  refine ev_const (v := nI 0) dR_readTokens_14 (by decide) ?_
  refine ev_puti dR_readTokens_15 fR_33 fwT_count (sh_T hr) (vp_nar_int _) rfl ?_
  refine ev_const (v := nI 0) dR_readTokens_18 (by decide) ?_
  refine ev_is dR_readTokens_19 rfl (Nat.le_of_ble_eq_true rfl) ?_
  refine ev_mem (M' := mE (mR M r (tOf M r)) r (0, false)) ?_ (l_readTokens hx 160 0 (0, false) (tOf M r) _ (Nat.zero_le _) ⟨Nat.zero_le _, fun k hk => absurd hk (Nat.not_lt_zero k)⟩ (by omega) rfl rfl ⟨rfl, rfl⟩)
  refine zM_ext (fun a i => ?_) rfl
  by_cases ha : a = r
  · subst ha
    by_cases h2 : i = 2
    · subst h2; rw [mE_n, zI_o (by omega), zI_k (by omega), zI_s]
    · by_cases h3 : i = 3
      · subst h3; rw [mE_s, zI_o (by omega), zI_s]; rfl
      · rw [mE_k h2 h3, mR_o (by omega), zI_o (by omega), zI_k h3, zI_k h2]
  · rw [mE_o ha]
    by_cases h2 : a = r + 2
    · subst h2
      by_cases h5 : i = 5
      · subst h5; rw [zI_s, mR_c]; rfl
      · rw [zI_k h5, mR_2 h5, zI_o (by omega), zI_o (by omega)]
    · rw [zI_o h2, zI_o ha, zI_o ha]
      by_cases h6 : a < r + 2 ∨ (r + 2 < a ∧ a < r + 6) ∨ r + 9 < a
      · rw [mR_o h6]
      · rcases (show a = r + 6 ∨ a = r + 7 ∨ a = r + 8 ∨ a = r + 9 by omega) with rfl | rfl | rfl | rfl
        · rw [mR_F]; rfl
        · rw [mR_L]; rfl
        · rw [mR_V]; rfl
        · rw [mR_A]; rfl
end
