/- Source: findTokens, fill; Tree; Arrays.fill (rows laid by program) -/
/-- all tokens of a text -/
def lAll (t : Nat → Nat) (e : Nat) : List (Nat × Nat × Nat) := lTok t e 161 (lBl t e 0 false)
theorem zCp_o {M : zM} {o o' sp dp k a i : Nat} (h : a ≠ o') : (zCp M o o' sp dp k).1 a i = M.1 a i := by simp [zCp, h]
theorem zCp_in {M : zM} {o o' sp dp k i : Nat} (h : dp ≤ i) (h2 : i < dp + k) : (zCp M o o' sp dp k).1 o' i = M.1 o (sp + (i - dp)) := by
  simp only [zCp, if_true]; exact pk_cpy_in h h2
theorem zCp_out {M : zM} {o o' sp dp k i : Nat} (h : i < dp ∨ dp + k ≤ i) : (zCp M o o' sp dp k).1 o' i = M.1 o' i := by
  simp only [zCp, if_true]; exact pk_cpy_out h
theorem zSame.C {S : Nat → Nat → Prop} {M M1 : zM} {o o' sp dp k : Nat} (h : zSame S M M1) (hs : ∀ i, S o' i) : zSame S M (zCp M1 o o' sp dp k) :=
  ⟨h.1, fun a i hn => (zCp_o (fun ha => hn (by rw [ha]; exact hs i))).trans (h.2 a i hn)⟩
theorem zSame.P {S : Nat → Nat → Prop} {M M' : zM} {n b : Nat} (h : zSame S M M') (hP : M.2.1 = zP0 n b) : M'.2.1 = zP0 n b := by rw [h.1]; exact hP
theorem zSame.weak {S S' : Nat → Nat → Prop} {M M' : zM} (h : zSame S M M') (hs : ∀ o i, S o i → S' o i) : zSame S' M M' := ⟨h.1, fun o i hn => h.2 o i (fun x => hn (hs o i x))⟩
/-- the text after an edit -/
def eT (t row : Nat → Nat) (p g w : Nat) : Nat → Nat := fun i => if i < p then t i else if i < p + w then row (i - p) else t (i - w + g)
def sT (r : Nat) : Nat → Nat → Prop := fun o i => o = r + 3 ∨ (o = r + 1 ∧ i = 1)
section
variable {Lx : Nat} {xs : Nat → Int32} {d : Nat} {M : zM} {n b r : Nat}
set_option maxRecDepth 100000 in
set_option maxHeartbeats 4000000 in
theorem c_findTokens {t : Nat → Nat} {e : Nat} (hP : M.2.1 = zP0 n b) (hr : zR r) (hT : Txt M r t e) : Ct Lx xs (d + 5) mS_findTokens [.ref (r + 1)] M (fun q M' => q = none ∧ zSame (sF r) M M' ∧ Toks M' r t (lAll t e)) := by
  unfold Ct
  have he := hT.2.1
  have hT0 : Txt (zI M (r + 1) 4 (nI 0)) r t e := ⟨(zI_k (by omega)).trans hT.1, hT.2.1, fun i hi => ⟨(zI_o (by omega)).trans (hT.2.2 i hi).1, (hT.2.2 i hi).2⟩⟩
  have hb0 := lBl_in t (e - 0) 0 false
  refine ev_al dS_findTokens_0 rfl (by first | assumption | rfl) ?_
  refine ev_const (v := nI 0) dS_findTokens_1 (by decide) ?_
  refine ev_puti dS_findTokens_2 fS_32 fwS_count (sh_S hr) (vp_nar_int _) rfl ?_
  refine ev_al dS_findTokens_5 rfl (by first | assumption | rfl) ?_
  refine ev_const (v := nI 0) dS_findTokens_6 (by decide) ?_
  refine ev_pV dS_findTokens_7 (c_passBlanks (M := zI M (r + 1) 4 (nI 0)) (p := 0) hP hr hT0 (by omega)) lS_35 (rec_S hr) rfl (Nat.le_of_ble_eq_true rfl) rfl (Nat.le_of_ble_eq_true rfl) ?_
  refine ev_is dS_findTokens_10 rfl (Nat.le_of_ble_eq_true rfl) ?_
  refine l_findTokens hr 161 (lBl t (e - 0) 0 false) [] _ _ hP hT0 rfl rfl (by omega) (by omega) (Nat.zero_le _) ⟨zI_s _ _ _ _, fun k q h => by simp at h⟩ ?_
  intro M' hs hk
  exact ⟨rfl, ((zSame.rf (sF r) M).I (Or.inr (Or.inr ⟨rfl, rfl⟩))).tr hs, hk⟩
set_option maxRecDepth 100000 in
set_option maxHeartbeats 4000000 in
theorem c_fill {t row : Nat → Nat} {e q p g w : Nat} (hP : M.2.1 = zP0 n b) (hr : zR r) (hq : zR q) (hne : q ≠ r) (hT : Txt M q t e) (hrow : ∀ i, i < w → M.1 1 i = nI (row i) ∧ row i < 128) (hp : p + g ≤ e) (hw : w ≤ 40) (hn : e - g + w ≤ 160) : Ct Lx xs (d + 1) mS_fill [.ref (r + 1), .ref (q + 1), .int (nI p), .int (nI g), .ref 1, .int (nI w)] M (fun z M' => z = none ∧ zSame (sT r) M M' ∧ Txt M' r (eT t row p g w) (e - g + w)) := by
  unfold Ct
  have he := hT.2.1
  have hrq : q + 3 ≠ r + 1 ∧ q + 1 ≠ r + 3 ∧ r ≠ 0 := by rcases hr with rfl | rfl <;> rcases hq with rfl | rfl <;> omega
  have hft : ∀ i, i < e → fits (ztt 1) (.int (M.1 (q + 3) i)) = true := fun i hi => by rw [(hT.2.2 i hi).1]; exact (pk_charN (Nat.lt_trans (hT.2.2 i hi).2 (by decide))).2
  have hfr : ∀ i, i < w → fits (ztt 1) (.int (M.1 1 i)) = true := fun i hi => by rw [(hrow i hi).1]; exact (pk_charN (Nat.lt_trans (hrow i hi).2 (by decide))).2
  refine ev_il dS_fill_0 rfl (by first | assumption | rfl) ?_
  refine ev_il dS_fill_1 rfl (by first | assumption | rfl) ?_
  first | with_reducible refine ev_addN dS_fill_2 ?_ | refine ev_add dS_fill_2 ?_
  refine ev_is dS_fill_3 rfl (Nat.le_of_ble_eq_true rfl) ?_
  refine ev_al dS_fill_5 rfl (by first | assumption | rfl) ?_
  refine ev_getrP dS_fill_6 fS_9 (sh_S hq) (zq hP (pt_chars hq)) ?_
  refine ev_const (v := nI 0) dS_fill_9 (by decide) ?_
  refine ev_al dS_fill_10 rfl (by first | assumption | rfl) ?_
  refine ev_getrP dS_fill_11 fS_9 (sh_S hr) (zq hP (pt_chars hr)) ?_
  refine ev_const (v := nI 0) dS_fill_14 (by decide) ?_
  refine ev_il dS_fill_15 rfl (by first | assumption | rfl) ?_
  refine ev_copy dS_fill_16 lS_22 (sh_chars hq) (sh_chars hr) (Or.inr rfl) (by omega) (by omega) (fun i hi => hft (0 + i) (by omega)) (Nat.le_of_ble_eq_true rfl) ?_
  refine ev_al dS_fill_19 rfl (by first | assumption | rfl) ?_
  refine ev_const (v := nI 0) dS_fill_21 (by decide) ?_
  refine ev_al dS_fill_22 rfl (by first | assumption | rfl) ?_
  refine ev_getrP dS_fill_23 fS_9 (sh_S hr) (zq hP (pt_chars hr)) ?_
  refine ev_il dS_fill_26 rfl (by first | assumption | rfl) ?_
  refine ev_il dS_fill_27 rfl (by first | assumption | rfl) ?_
  refine ev_copy dS_fill_29 lS_22 rfl (sh_chars hr) (Or.inr rfl) (by omega) (by omega) (fun i hi => by rw [zCp_o (M := M) (by omega : 1 ≠ r + 3)]; exact hfr (0 + i) (by omega)) (Nat.le_of_ble_eq_true rfl) ?_
  refine ev_al dS_fill_32 rfl (by first | assumption | rfl) ?_
  refine ev_getrP dS_fill_33 fS_9 (sh_S hq) (zq hP (pt_chars hq)) ?_
  refine ev_il dS_fill_36 rfl (by first | assumption | rfl) ?_
  refine ev_al dS_fill_38 rfl (by first | assumption | rfl) ?_
  refine ev_getrP dS_fill_39 fS_9 (sh_S hr) (zq hP (pt_chars hr)) ?_
  refine ev_il dS_fill_42 rfl (by first | assumption | rfl) ?_
  refine ev_il dS_fill_43 rfl (by first | assumption | rfl) ?_
  first | with_reducible refine ev_addN dS_fill_45 ?_ | refine ev_add dS_fill_45 ?_
  refine ev_al dS_fill_46 rfl (by first | assumption | rfl) ?_
  refine ev_geti dS_fill_47 fS_28 (sh_S hq) ?_
  have hz50 : (zCp (zCp M (q + 3) (r + 3) 0 0 p) 1 (r + 3) 0 p w).1 (q + 1) 1 = nI e := (zCp_o (by omega)).trans ((zCp_o (by omega)).trans hT.1)
  rw [hz50]
  refine ev_il dS_fill_50 rfl (by first | assumption | rfl) ?_
  first | with_reducible refine ev_subN dS_fill_52 (by omega) ?_ | refine ev_sub dS_fill_52 ?_
  refine ev_copy dS_fill_53 lS_22 (sh_chars hq) (sh_chars hr) (Or.inr rfl) (by omega) (by omega) (fun i hi => by rw [zCp_o (M := (zCp M (q + 3) (r + 3) 0 0 p)) (by omega : q + 3 ≠ r + 3), zCp_o (M := M) (by omega : q + 3 ≠ r + 3)]; exact hft (p + g + i) (by omega)) (Nat.le_of_ble_eq_true rfl) ?_
  refine ev_al dS_fill_56 rfl (by first | assumption | rfl) ?_
  refine ev_al dS_fill_57 rfl (by first | assumption | rfl) ?_
  refine ev_geti dS_fill_58 fS_28 (sh_S hq) ?_
  have hz61 : (zCp (zCp (zCp M (q + 3) (r + 3) 0 0 p) 1 (r + 3) 0 p w) (q + 3) (r + 3) (p + g) (p + w) (e - (p + g))).1 (q + 1) 1 = nI e := (zCp_o (by omega)).trans hz50
  rw [hz61]
  refine ev_il dS_fill_61 rfl (by first | assumption | rfl) ?_
  first | with_reducible refine ev_subN dS_fill_62 (by omega) ?_ | refine ev_sub dS_fill_62 ?_
  refine ev_il dS_fill_63 rfl (by first | assumption | rfl) ?_
  first | with_reducible refine ev_addN dS_fill_65 ?_ | refine ev_add dS_fill_65 ?_
  refine ev_puti dS_fill_66 fS_28 fwS_size (sh_S hr) (vp_nar_int _) rfl ?_
  refine ev_vret dS_fill_69 rfl ?_
  refine ⟨rfl, ?_, ?_⟩
  · exact (((zSame.rf (sT r) M).C (fun _ => Or.inl rfl)).C (fun _ => Or.inl rfl)).C (fun _ => Or.inl rfl) |>.I (Or.inr ⟨rfl, rfl⟩)
  · refine ⟨zI_s _ _ _ _, hn, fun i hi => ?_⟩
    unfold eT
    by_cases h1 : i < p
    · rw [if_pos h1]
      refine ⟨(zI_o (by omega)).trans ((zCp_out (Or.inl (by omega))).trans ((zCp_out (Or.inl h1)).trans ((zCp_in (Nat.zero_le i) (by omega)).trans ?_))), (hT.2.2 i (by omega)).2⟩
      rw [show 0 + (i - 0) = i by omega]; exact (hT.2.2 i (by omega)).1
    · rw [if_neg h1]
      by_cases h2 : i < p + w
      · rw [if_pos h2]
        refine ⟨(zI_o (by omega)).trans ((zCp_out (Or.inl h2)).trans ((zCp_in (by omega) h2).trans ((zCp_o (by omega)).trans ?_))), (hrow (i - p) (by omega)).2⟩
        rw [show 0 + (i - p) = i - p by omega]; exact (hrow (i - p) (by omega)).1
      · rw [if_neg h2]
        refine ⟨(zI_o (by omega)).trans ((zCp_in (by omega) (by omega)).trans ((zCp_o (by omega)).trans ((zCp_o (by omega)).trans ?_))), (hT.2.2 (i - w + g) (by omega)).2⟩
        rw [show p + g + (i - (p + w)) = i - w + g by omega]; exact (hT.2.2 (i - w + g) (by omega)).1
set_option maxRecDepth 100000 in
set_option maxHeartbeats 4000000 in
theorem c_has_in {c k : Nat} (hP : M.2.1 = zP0 n b) (hr : zR r) (hc : M.1 (r + 2) 5 = nI c) (hc2 : c ≤ 160) (hk : k < c) : Pu Lx xs d mT_has [.ref (r + 2), .int (nI k)] M (nI 1) := by
  unfold Pu Ct
  refine ev_il dT_has_0 rfl (by first | assumption | rfl) ?_
  refine ev_if0 (tgt := 16) dT_has_1 (by decide) (fun h1 => ?_) (fun h1 => ?_)
  · first | omega | (simp (disch := omega) only [zcond, nI_ltI, nI_leI, nI_eq] at h1; omega)
  · try simp (disch := omega) only [zcond, nI_ltI, nI_leI, nI_eq, zb0, Classical.not_not, Bool.not_eq_false, Nat.not_lt, Nat.not_le] at h1
    refine ev_il dT_has_4 rfl (by first | assumption | rfl) ?_
    refine ev_al dT_has_5 rfl (by first | assumption | rfl) ?_
    refine ev_geti dT_has_6 fT_27 (sh_T hr) ?_
    rw [hc]
    refine ev_icmp (tgt := 16) dT_has_9 (by decide) (fun h9 => ?_) (fun h9 => ?_)
    · first | omega | (simp (disch := omega) only [zcond, nI_ltI, nI_leI, nI_eq] at h9; omega)
    · try simp (disch := omega) only [zcond, nI_ltI, nI_leI, nI_eq, zb0, Classical.not_not, Bool.not_eq_false, Nat.not_lt, Nat.not_le] at h9
      refine ev_const (v := nI 1) dT_has_12 (by decide) ?_
      refine ev_goto (tgt := 17) dT_has_13 (by decide) ?_
      refine ev_ret dT_has_17 rfl rfl ?_
      exact ⟨rfl, rfl⟩
set_option maxRecDepth 100000 in
set_option maxHeartbeats 4000000 in
theorem c_has_out {c : Nat} {x : Int32} (hP : M.2.1 = zP0 n b) (hr : zR r) (hc : M.1 (r + 2) 5 = nI c) (h : x < nI 0 ∨ nI c ≤ x) : Pu Lx xs d mT_has [.ref (r + 2), .int x] M (nI 0) := by
  unfold Pu Ct
  refine ev_il dT_has_0 rfl (by first | assumption | rfl) ?_
  refine ev_if0 (tgt := 16) dT_has_1 (by decide) (fun h1 => ?_) (fun h1 => ?_)
  · refine ev_const (v := nI 0) dT_has_16 (by decide) ?_
    refine ev_ret dT_has_17 rfl rfl ?_
    exact ⟨rfl, rfl⟩
  · refine ev_il dT_has_4 rfl (by first | assumption | rfl) ?_
    refine ev_al dT_has_5 rfl (by first | assumption | rfl) ?_
    refine ev_geti dT_has_6 fT_27 (sh_T hr) ?_
    rw [hc]
    refine ev_icmp (tgt := 16) dT_has_9 (by decide) (fun h9 => ?_) (fun h9 => ?_)
    · refine ev_const (v := nI 0) dT_has_16 (by decide) ?_
      refine ev_ret dT_has_17 rfl rfl ?_
      exact ⟨rfl, rfl⟩
    · exact (h.elim h1 h9).elim
def tFi (fi la : Nat → Nat) (a z : Nat) : Nat → Nat → Int32
  | 0, _ => -1
  | f + 1, k => if fi k = a ∧ la k = z then nI k else tFi fi la a z f (k + 1)
def tNu (nu : Nat → Int32) (x : Int32) : Nat → Nat → Int32
  | 0, _ => -1
  | f + 1, k => if nu k = x then nI k else tNu nu x f (k + 1)
set_option maxRecDepth 100000 in
set_option maxHeartbeats 4000000 in
theorem l_itemOfTokens {c a z : Nat} {fi la : Nat → Nat} (hP : M.2.1 = zP0 n b) (hr : zR r) (hc : M.1 (r + 2) 5 = nI c) (hc2 : c ≤ 160) (ha : a < 2 ^ 31) (hz : z < 2 ^ 31) (hfi : ∀ k, k < c → M.1 (r + 6) k = nI (fi k) ∧ M.1 (r + 7) k = nI (la k) ∧ fi k < 2 ^ 31 ∧ la k < 2 ^ 31) {R : Option Int32 → zM → Prop} : ∀ (f k : Nat) (L : Nat → Value), k + f = c → L 0 = .ref (r + 2) → L 1 = .int (nI a) → L 2 = .int (nI z) → L 3 = .int (nI k) → R (some (tFi fi la a z f k)) M → Ev Lx xs d mT_itemOfTokens 2 L [] M (zpost mT_itemOfTokens R) := by
  intro f
  induction f with
  | zero =>
    intro k L hf hL0 hL1 hL2 hL3 hR
    refine ev_il dT_itemOfTokens_2 rfl (by first | assumption | rfl) ?_
    refine ev_al dT_itemOfTokens_3 rfl (by first | assumption | rfl) ?_
    refine ev_geti dT_itemOfTokens_4 fT_27 (sh_T hr) ?_
    rw [hc]
    refine ev_icmp (tgt := 38) dT_itemOfTokens_7 (by decide) (fun h7 => ?_) (fun h7 => ?_)
    · try simp (disch := omega) only [zcond, nI_ltI, nI_leI, nI_eq, zb0, Classical.not_not, Bool.not_eq_false, Nat.not_lt, Nat.not_le] at h7
      refine ev_const (v := -1) dT_itemOfTokens_38 (by decide) ?_
      refine ev_ret dT_itemOfTokens_39 rfl rfl ?_
      exact hR
    · first | omega | (simp (disch := omega) only [zcond, nI_ltI, nI_leI, nI_eq] at h7; omega)
  | succ f ih =>
    intro k L hf hL0 hL1 hL2 hL3 hR
    refine ev_il dT_itemOfTokens_2 rfl (by first | assumption | rfl) ?_
    refine ev_al dT_itemOfTokens_3 rfl (by first | assumption | rfl) ?_
    refine ev_geti dT_itemOfTokens_4 fT_27 (sh_T hr) ?_
    rw [hc]
    refine ev_icmp (tgt := 38) dT_itemOfTokens_7 (by decide) (fun h7 => ?_) (fun h7 => ?_)
    · first | omega | (simp (disch := omega) only [zcond, nI_ltI, nI_leI, nI_eq] at h7; omega)
    · try simp (disch := omega) only [zcond, nI_ltI, nI_leI, nI_eq, zb0, Classical.not_not, Bool.not_eq_false, Nat.not_lt, Nat.not_le] at h7
      refine ev_al dT_itemOfTokens_10 rfl (by first | assumption | rfl) ?_
      refine ev_getrP dT_itemOfTokens_11 fT_9 (sh_T hr) (zq hP (pt_firsts hr)) ?_
      refine ev_il dT_itemOfTokens_14 rfl (by first | assumption | rfl) ?_
      refine ev_aldN dT_itemOfTokens_15 rfl (sh_firsts hr) (by omega) ?_
      rw [(hfi k (by omega)).1]
      have hb1 := (hfi k (by omega)).2.2.1
      refine ev_il dT_itemOfTokens_16 rfl (by first | assumption | rfl) ?_
      refine ev_icmp (tgt := 32) dT_itemOfTokens_17 (by decide) (fun h17 => ?_) (fun h17 => ?_)
      · try simp (disch := omega) only [zcond, nI_ltI, nI_leI, nI_eq, zb0, Classical.not_not, Bool.not_eq_false, Nat.not_lt, Nat.not_le] at h17
        refine ev_inc1 dT_itemOfTokens_32 (by first | assumption | rfl) ?_
        refine ev_goto (tgt := 2) dT_itemOfTokens_35 (by decide) ?_
        exact ih (k + 1) _ (by omega) (by first | assumption | rfl) (by first | assumption | rfl) (by first | assumption | rfl) rfl (by rw [tFi, if_neg (by omega)] at hR; exact hR)
      · try simp (disch := omega) only [zcond, nI_ltI, nI_leI, nI_eq, zb0, Classical.not_not, Bool.not_eq_false, Nat.not_lt, Nat.not_le] at h17
        refine ev_al dT_itemOfTokens_20 rfl (by first | assumption | rfl) ?_
        refine ev_getrP dT_itemOfTokens_21 fT_15 (sh_T hr) (zq hP (pt_lasts hr)) ?_
        refine ev_il dT_itemOfTokens_24 rfl (by first | assumption | rfl) ?_
        refine ev_aldN dT_itemOfTokens_25 rfl (sh_lasts hr) (by omega) ?_
        rw [(hfi k (by omega)).2.1]
        have hb2 := (hfi k (by omega)).2.2.2
        refine ev_il dT_itemOfTokens_26 rfl (by first | assumption | rfl) ?_
        refine ev_icmp (tgt := 32) dT_itemOfTokens_27 (by decide) (fun h27 => ?_) (fun h27 => ?_)
        · try simp (disch := omega) only [zcond, nI_ltI, nI_leI, nI_eq, zb0, Classical.not_not, Bool.not_eq_false, Nat.not_lt, Nat.not_le] at h27
          refine ev_inc1 dT_itemOfTokens_32 (by first | assumption | rfl) ?_
          refine ev_goto (tgt := 2) dT_itemOfTokens_35 (by decide) ?_
          exact ih (k + 1) _ (by omega) (by first | assumption | rfl) (by first | assumption | rfl) (by first | assumption | rfl) rfl (by rw [tFi, if_neg (by omega)] at hR; exact hR)
        · try simp (disch := omega) only [zcond, nI_ltI, nI_leI, nI_eq, zb0, Classical.not_not, Bool.not_eq_false, Nat.not_lt, Nat.not_le] at h27
          refine ev_il dT_itemOfTokens_30 rfl (by first | assumption | rfl) ?_
          refine ev_ret dT_itemOfTokens_31 rfl rfl ?_
          rw [tFi, if_pos ⟨h17, h27⟩] at hR
          exact hR
set_option maxRecDepth 100000 in
set_option maxHeartbeats 4000000 in
theorem c_itemOfTokens {c a z : Nat} {fi la : Nat → Nat} (hP : M.2.1 = zP0 n b) (hr : zR r) (hc : M.1 (r + 2) 5 = nI c) (hc2 : c ≤ 160) (ha : a < 2 ^ 31) (hz : z < 2 ^ 31) (hfi : ∀ k, k < c → M.1 (r + 6) k = nI (fi k) ∧ M.1 (r + 7) k = nI (la k) ∧ fi k < 2 ^ 31 ∧ la k < 2 ^ 31) : Pu Lx xs d mT_itemOfTokens [.ref (r + 2), .int (nI a), .int (nI z)] M (tFi fi la a z c 0) := by
  unfold Pu Ct
  refine ev_const (v := nI 0) dT_itemOfTokens_0 (by decide) ?_
  refine ev_is dT_itemOfTokens_1 rfl (Nat.le_of_ble_eq_true rfl) ?_
  exact l_itemOfTokens hP hr hc hc2 ha hz hfi c 0 _ (by omega) rfl rfl rfl rfl ⟨rfl, rfl⟩
set_option maxRecDepth 100000 in
set_option maxHeartbeats 4000000 in
theorem l_itemNumbered {c : Nat} {x : Int32} (hP : M.2.1 = zP0 n b) (hr : zR r) (hc : M.1 (r + 2) 5 = nI c) (hc2 : c ≤ 160) {R : Option Int32 → zM → Prop} : ∀ (f k : Nat) (L : Nat → Value), k + f = c → L 0 = .ref (r + 2) → L 1 = .int x → L 2 = .int (nI k) → R (some (tNu (M.1 (r + 10)) x f k)) M → Ev Lx xs d mT_itemNumbered 2 L [] M (zpost mT_itemNumbered R) := by
  intro f
  induction f with
  | zero =>
    intro k L hf hL0 hL1 hL2 hR
    refine ev_il dT_itemNumbered_2 rfl (by first | assumption | rfl) ?_
    refine ev_al dT_itemNumbered_3 rfl (by first | assumption | rfl) ?_
    refine ev_geti dT_itemNumbered_4 fT_27 (sh_T hr) ?_
    rw [hc]
    refine ev_icmp (tgt := 28) dT_itemNumbered_7 (by decide) (fun h7 => ?_) (fun h7 => ?_)
    · try simp (disch := omega) only [zcond, nI_ltI, nI_leI, nI_eq, zb0, Classical.not_not, Bool.not_eq_false, Nat.not_lt, Nat.not_le] at h7
      refine ev_const (v := -1) dT_itemNumbered_28 (by decide) ?_
      refine ev_ret dT_itemNumbered_29 rfl rfl ?_
      exact hR
    · first | omega | (simp (disch := omega) only [zcond, nI_ltI, nI_leI, nI_eq] at h7; omega)
  | succ f ih =>
    intro k L hf hL0 hL1 hL2 hR
    refine ev_il dT_itemNumbered_2 rfl (by first | assumption | rfl) ?_
    refine ev_al dT_itemNumbered_3 rfl (by first | assumption | rfl) ?_
    refine ev_geti dT_itemNumbered_4 fT_27 (sh_T hr) ?_
    rw [hc]
    refine ev_icmp (tgt := 28) dT_itemNumbered_7 (by decide) (fun h7 => ?_) (fun h7 => ?_)
    · first | omega | (simp (disch := omega) only [zcond, nI_ltI, nI_leI, nI_eq] at h7; omega)
    · try simp (disch := omega) only [zcond, nI_ltI, nI_leI, nI_eq, zb0, Classical.not_not, Bool.not_eq_false, Nat.not_lt, Nat.not_le] at h7
      refine ev_al dT_itemNumbered_10 rfl (by first | assumption | rfl) ?_
      refine ev_getrP dT_itemNumbered_11 fT_24 (sh_T hr) (zq hP (pt_numbers hr)) ?_
      refine ev_il dT_itemNumbered_14 rfl (by first | assumption | rfl) ?_
      refine ev_aldN dT_itemNumbered_15 rfl (sh_numbers hr) (by omega) ?_
      refine ev_il dT_itemNumbered_16 rfl (by first | assumption | rfl) ?_
      refine ev_icmp (tgt := 22) dT_itemNumbered_17 (by decide) (fun h17 => ?_) (fun h17 => ?_)
      · simp only [zcond, Classical.not_not] at h17
        refine ev_inc1 dT_itemNumbered_22 (by first | assumption | rfl) ?_
        refine ev_goto (tgt := 2) dT_itemNumbered_25 (by decide) ?_
        exact ih (k + 1) _ (by omega) (by first | assumption | rfl) (by first | assumption | rfl) rfl (by rw [tNu, if_neg h17] at hR; exact hR)
      · simp only [zcond, Classical.not_not] at h17
        refine ev_il dT_itemNumbered_20 rfl (by first | assumption | rfl) ?_
        refine ev_ret dT_itemNumbered_21 rfl rfl ?_
        rw [tNu, if_pos h17] at hR
        exact hR
set_option maxRecDepth 100000 in
set_option maxHeartbeats 4000000 in
theorem c_itemNumbered {c : Nat} {x : Int32} (hP : M.2.1 = zP0 n b) (hr : zR r) (hc : M.1 (r + 2) 5 = nI c) (hc2 : c ≤ 160) : Pu Lx xs d mT_itemNumbered [.ref (r + 2), .int x] M (tNu (M.1 (r + 10)) x c 0) := by
  unfold Pu Ct
  refine ev_const (v := nI 0) dT_itemNumbered_0 (by decide) ?_
  refine ev_is dT_itemNumbered_1 rfl (Nat.le_of_ble_eq_true rfl) ?_
  exact l_itemNumbered hP hr hc hc2 c 0 _ (by omega) rfl rfl rfl ⟨rfl, rfl⟩
set_option maxRecDepth 100000 in
set_option maxHeartbeats 4000000 in
theorem l_fillA {x : Int32} {R : Option Int32 → zM → Prop} : ∀ (f i : Nat) (M : zM) (L : Nat → Value), i + f = 160 → L 0 = .ref 24 → L 1 = .int x → L 2 = .int (nI i) → L 3 = .int (nI 160) → (∀ j, j < i → M.1 24 j = x) → (∀ M', zSame (fun o _ => o = 24) M M' → (∀ j, j < 160 → M'.1 24 j = x) → R none M') → Ev Lx xs d mJ_fill 5 L [] M (zpost mJ_fill R) := by
  intro f
  induction f with
  | zero =>
    intro i M L hf hL0 hL1 hL2 hL3 hj1 hR
    refine ev_il dJ_fill_5 rfl (by first | assumption | rfl) ?_
    refine ev_il dJ_fill_6 rfl (by first | assumption | rfl) ?_
    refine ev_icmp (tgt := 20) dJ_fill_7 (by decide) (fun h7 => ?_) (fun h7 => ?_)
    · try simp (disch := omega) only [zcond, nI_ltI, nI_leI, nI_eq, zb0, Classical.not_not, Bool.not_eq_false, Nat.not_lt, Nat.not_le] at h7
      refine ev_vret dJ_fill_20 rfl ?_
      exact hR M (zSame.rf _ _) (fun j hj => hj1 j (by omega))
    · first | omega | (simp (disch := omega) only [zcond, nI_ltI, nI_leI, nI_eq] at h7; omega)
  | succ f ih =>
    intro i M L hf hL0 hL1 hL2 hL3 hj1 hR
    refine ev_il dJ_fill_5 rfl (by first | assumption | rfl) ?_
    refine ev_il dJ_fill_6 rfl (by first | assumption | rfl) ?_
    refine ev_icmp (tgt := 20) dJ_fill_7 (by decide) (fun h7 => ?_) (fun h7 => ?_)
    · first | omega | (simp (disch := omega) only [zcond, nI_ltI, nI_leI, nI_eq] at h7; omega)
    · try simp (disch := omega) only [zcond, nI_ltI, nI_leI, nI_eq, zb0, Classical.not_not, Bool.not_eq_false, Nat.not_lt, Nat.not_le] at h7
      refine ev_al dJ_fill_10 rfl (by first | assumption | rfl) ?_
      refine ev_il dJ_fill_11 rfl (by first | assumption | rfl) ?_
      refine ev_il dJ_fill_12 rfl (by first | assumption | rfl) ?_
      refine ev_iastN dJ_fill_13 rfl (by omega) ?_
      refine ev_inc1 dJ_fill_14 (by first | assumption | rfl) ?_
      refine ev_goto (tgt := 5) dJ_fill_17 (by decide) ?_
      refine ih (i + 1) (zI M 24 i x) _ (by omega) (by first | assumption | rfl) (by first | assumption | rfl) rfl (by first | assumption | rfl) ?_ ?_
      · intro j hj
        by_cases hji : j = i
        · subst hji; exact zI_s _ _ _ _
        · exact (zI_k hji).trans (hj1 j (by omega))
      · intro M' hs hall
        exact hR M' ((zSame.I (S := fun o _ => o = 24) (zSame.rf _ M) rfl).tr hs) hall
set_option maxRecDepth 100000 in
set_option maxHeartbeats 4000000 in
theorem c_fillA {x : Int32} : Ct Lx xs d mJ_fill [.ref 24, .int x] M (fun q M' => q = none ∧ zSame (fun o _ => o = 24) M M' ∧ ∀ j, j < 160 → M'.1 24 j = x) := by
  unfold Ct
  refine ev_const (v := nI 0) dJ_fill_0 (by decide) ?_
  refine ev_is dJ_fill_1 rfl (Nat.le_of_ble_eq_true rfl) ?_
  refine ev_al dJ_fill_2 rfl (by first | assumption | rfl) ?_
  refine ev_alen dJ_fill_3 rfl ?_
  refine ev_is dJ_fill_4 rfl (Nat.le_of_ble_eq_true rfl) ?_
  exact l_fillA 160 0 _ _ rfl rfl rfl rfl rfl (fun j hj => absurd hj (Nat.not_lt_zero j)) (fun M' hs hall => ⟨rfl, hs, hall⟩)
end
