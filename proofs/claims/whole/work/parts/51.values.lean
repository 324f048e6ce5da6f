/- the values, and all that reading leaves, are the same on both sides -/
theorem mNam_sn {df : Nat → Bool} {sm : Nat → Nat → Bool} {fi : Nat → Nat} {va : Nat → Int32} {nm : Nat} : ∀ (f j : Nat) (v : Int32), mNam df sm fi va nm (f + 1) j v = if df (j + f) = true ∧ sm (fi (j + f)) nm = true then va (j + f) else mNam df sm fi va nm f j v
  | 0, j, v => by rw [mNam, mNam, mNam]; rfl
  | f + 1, j, v => by
    rw [mNam, mNam_sn f (j + 1) _, mNam, show j + 1 + f = j + (f + 1) by omega]
theorem mNam_pNv {nT : Nat} {mk : Nat → Nat} {same : Nat → Nat → Bool} {df : Nat → Bool} {sm : Nat → Nat → Bool} {fi : Nat → Nat} {va va' : Nat → Int32} {nm : Nat} : ∀ (k : Nat), (∀ i, i < k → ((df i = true ∧ sm (fi i) nm = true) ↔ ((fi i + 1 < nT ∧ mk (fi i + 1) = 61) ∧ same (fi i) nm = true)) ∧ va i = va' i) → mNam df sm fi va nm k 0 (nI 0) = pNv nT mk same fi va' k nm
  | 0, _ => rfl
  | k + 1, h => by
    rw [mNam_sn, Nat.zero_add, pNv, mNam_pNv k (fun i hi => h i (by omega)), (h k (by omega)).2]
    by_cases hc : df k = true ∧ sm (fi k) nm = true
    · rw [if_pos hc, if_pos ((h k (by omega)).1.mp hc)]
    · rw [if_neg hc, if_neg (fun hh => hc ((h k (by omega)).1.mpr hh))]
theorem mCnt_add {F La Lv : Nat → Int32} {k : Nat} : ∀ (f g j c : Nat), mCnt F La Lv k (f + g) j c = mCnt F La Lv k g (j + f) (mCnt F La Lv k f j c)
  | 0, g, j, c => by rw [Nat.zero_add, mCnt, Nat.add_zero]
  | f + 1, g, j, c => by rw [show f + 1 + g = (f + g) + 1 by omega, mCnt, mCnt_add f g (j + 1), mCnt, show j + 1 + f = j + (f + 1) by omega]
theorem mCnt_in {F La Lv : Nat → Int32} {k d : Nat} (hd : Lv k + nI 1 = nI d) : ∀ (f j c : Nat), (∀ i, j ≤ i → i < j + f → F i < La k) → mCnt F La Lv k f j c = c + cntL Lv d f j
  | 0, j, c, _ => by rw [mCnt, cntL, Nat.add_zero]
  | f + 1, j, c, h => by
    rw [mCnt, mCnt_in hd f (j + 1) _ (fun i h1 h2 => h i (by omega) (by omega)), cntL, hd]
    by_cases hc : Lv j = nI d
    · rw [if_pos ⟨h j (by omega) (by omega), hc⟩, if_pos hc]; omega
    · rw [if_neg (fun hh => hc hh.2), if_neg hc]; omega
theorem mCnt_out {F La Lv : Nat → Int32} {k : Nat} : ∀ (f j c : Nat), (∀ i, j ≤ i → i < j + f → ¬ F i < La k) → mCnt F La Lv k f j c = c
  | 0, j, c, _ => by rw [mCnt]
  | f + 1, j, c, h => by
    rw [mCnt, if_neg (fun hh => h j (by omega) (by omega) hh.1), mCnt_out f (j + 1) c (fun i h1 h2 => h i (by omega) (by omega))]
section
variable {t : Nat → Nat} {ts : List (Nat × Nat × Nat)} {e : Nat}
/-- what is known of tokens: in order, and a sign's letter is a sign -/
def tsSg (t : Nat → Nat) (ts : List (Nat × Nat × Nat)) : Prop := ∀ k, k < ts.length → (tk ts k).2.2 = 3 → lSig (t (tk ts k).1) = true
theorem mk97 (ho : tsOk e ts) (hs : tsSg t ts) {a : Nat} (ha : a < ts.length) (h : tMk t ts a = 97) : (tk ts a).2.2 = 0 := by
  have h5 := (ho.2.2.1 a _ (tk_at ha)).2.2
  have h3 := hs a ha
  unfold tMk at h
  rcases (show (tk ts a).2.2 = 0 ∨ (tk ts a).2.2 = 1 ∨ (tk ts a).2.2 = 2 ∨ (tk ts a).2.2 = 3 ∨ (tk ts a).2.2 = 4 by omega) with h' | h' | h' | h' | h' <;> rw [h'] at h
  · exact h'
  · simp [lMk] at h
  · simp [lMk] at h
  · have := h3 h'
    simp [lMk] at h
    rw [h] at this
    simp [lSig] at this
  · simp [lMk] at h
theorem mk123 (ho : tsOk e ts) {a : Nat} (ha : a < ts.length) (h : tMk t ts a = 123) : (tk ts a).2.2 = 3 := by
  have h5 := (ho.2.2.1 a _ (tk_at ha)).2.2
  unfold tMk at h
  rcases (show (tk ts a).2.2 = 0 ∨ (tk ts a).2.2 = 1 ∨ (tk ts a).2.2 = 2 ∨ (tk ts a).2.2 = 3 ∨ (tk ts a).2.2 = 4 by omega) with h' | h' | h' | h' | h' <;> rw [h'] at h
  · simp [lMk] at h
  · simp [lMk] at h
  · simp [lMk] at h
  · exact h'
  · simp [lMk] at h
theorem tsm_no (ho : tsOk e ts) (hs : tsSg t ts) : ∀ a z, a < ts.length → z < ts.length → tMk t ts a = 123 → tMk t ts z = 97 → tSm t ts a z = false := by
  intro a z ha hz h1 h2
  have k1 := mk123 ho ha h1
  have k2 := mk97 ho hs hz h2
  have v1 := (tV_in ho ha).2.2.2.1
  have v2 := (tV_in ho hz).2.2.2.1
  unfold tSm
  rw [if_neg (by omega)]
theorem tsm_eq (ho : tsOk e ts) (hs : tsSg t ts) {a z : Nat} (ha : a < ts.length) (hz : z < ts.length) (h1 : tMk t ts a = 97) (h2 : tMk t ts z = 97) : tSm t ts a z = mSm t ts a z := by
  have k1 := mk97 ho hs ha h1
  have k2 := mk97 ho hs hz h2
  obtain ⟨-, p1, l1, c1, -⟩ := tV_in ho ha
  obtain ⟨-, p2, l2, c2, -⟩ := tV_in ho hz
  unfold tSm mSm
  by_cases hl : (tk ts a).2.1 = (tk ts z).2.1
  · rw [if_pos (by omega), l1, p1, p2, hl]; simp
  · rw [if_neg (by omega)]; simp [hl]
def brO (t : Nat → Nat) (ts : List (Nat × Nat × Nat)) (T : pTr) (k : Nat) : Bool := decide (tMk t ts (tF T k) = 123)
def dfO (t : Nat → Nat) (ts : List (Nat × Nat × Nat)) (T : pTr) (k : Nat) : Bool := decide (tMk t ts (tF T k) ≠ 123 ∧ tMk t ts (tF T k + 1) = 61)
/-- an item's value on both sides -/
theorem val_one (ho : tsOk e ts) (hs : tsSg t ts) {T : pTr} {B : aB} {C k : Nat} {va : Nat → Int32} (hC : C ≤ 160) (hk : k < C) (hi : ∀ j, j < C → itOk ts.length (tMk t ts) (tTv t ts) (tSl ts) (tSm t ts) T C j) (hB : gEq (tMk t ts) T B 0 C) (hva : ∀ i, i < k → va i = T.2.2.2.2 i) :
  (brO t ts T k = false → (if dfO t ts T k = true then tF T k + 2 else tF T k) ≤ tL T k ∧ ∃ x r, eGo (tMk t ts) (tTv t ts) (tSl ts) (fun nm => mNam (dfO t ts T) (mSm t ts) (tF T) va nm k 0 (nI 0)) (if dfO t ts T k = true then tF T k + 2 else tF T k) (tL T k - (if dfO t ts T k = true then tF T k + 2 else tF T k)) (if dfO t ts T k = true then tF T k + 2 else tF T k) [eFirst] true = some (x :: r)) ∧
  fVal t ts B.2.1 B.2.2.1 B.2.2.2.1 C (tF T) (tL T) (brO t ts T) (dfO t ts T) va k = T.2.2.2.2 k := by
  have hn : ts.length ≤ 160 := Nat.le_trans ho.2.1 ho.1
  obtain ⟨a, z, dp, e1, e2, e3, haz, hz, hdp, hd⟩ := hi k hk
  have hF : tF T k = a := by unfold tF; rw [e1]; exact nI_clamp (by omega)
  have hL : tL T k = z := by unfold tL; rw [e2]; exact nI_clamp (by omega)
  have hnv : ∀ nm, nm < ts.length → tMk t ts nm = 97 → pNv ts.length (tMk t ts) (tSm t ts) (tF T) T.2.2.2.2 k nm = mNam (dfO t ts T) (mSm t ts) (tF T) va nm k 0 (nI 0) := by
    intro nm hnm h97
    refine (mNam_pNv k (fun i hik => ⟨?_, hva i hik⟩)).symm
    have hit := hi i (by omega)
    have htl := itOk_tL hn hit
    obtain ⟨a', z', dp', e1', e2', e3', haz', hz', hdp', hd'⟩ := hit
    have hF' : tF T i = a' := by unfold tF; rw [e1']; exact nI_clamp (by omega)
    unfold dfO
    rw [hF']
    by_cases h123 : tMk t ts a' = 123
    · rw [tsm_no ho hs a' nm (by omega) hnm h123 h97]
      simp [h123]
    · have h97' : tMk t ts a' = 97 ∧ a' + 1 < ts.length := by
        rcases hd' with ⟨h1, -⟩ | ⟨h1, h2, h3, -⟩ | ⟨h1, h2, h3, -⟩
        · exact absurd h1 h123
        · exact ⟨h1, by omega⟩
        · exact ⟨h1, by omega⟩
      rw [tsm_eq ho hs (by omega) hnm h97'.1 h97]
      simp [h123, h97'.2]
  obtain ⟨g1, g2, g3, -, -⟩ := hB k (Nat.zero_le _) hk
  rcases hd with ⟨h1, m, m1, m2, m3, m4, m5⟩ | ⟨h1, h2, h3, h4⟩ | ⟨h1, h2, h3, h4⟩
  · have hbr : brO t ts T k = true := by unfold brO; rw [hF]; simp [h1]
    refine ⟨(fun h => by rw [hbr] at h; cases h), ?_⟩
    rw [fVal_br hbr, m5]
    have hff : ∀ i, i < C → B.2.1 i = nI (tF T i) ∧ tF T i < 160 := fun i hi2 => by
      obtain ⟨a', z', dp', e1', e2', e3', haz', hz', -⟩ := hi i hi2
      have hF' : tF T i = a' := by unfold tF; rw [e1']; exact nI_clamp (by omega)
      rw [(hB i (Nat.zero_le _) hi2).1, e1', hF']; exact ⟨rfl, by omega⟩
    have hin : ∀ i, k + 1 ≤ i → i < k + 1 + (m - (k + 1)) → B.2.1 i < B.2.2.1 k := by
      intro i i1 i2
      obtain ⟨q1, q2⟩ := hff i (by omega)
      have := m3 i (by omega) (by omega)
      rw [q1, g2, e2, nI_ltI (by omega) (by omega)]
      omega
    have hout : ∀ i, k + 1 + (m - (k + 1)) ≤ i → i < k + 1 + (m - (k + 1)) + (C - m) → ¬ B.2.1 i < B.2.2.1 k := by
      intro i i1 i2
      obtain ⟨q1, q2⟩ := hff i (by omega)
      have := m4 i (by omega) (by omega)
      rw [q1, g2, e2, nI_ltI (by omega) (by omega)]
      omega
    rw [show C - (k + 1) = (m - (k + 1)) + (C - m) by omega, mCnt_add, mCnt_in (d := dp + 1) (by rw [g3, e3]; exact nI_add _ _) _ _ _ hin, mCnt_out _ _ _ hout, Nat.zero_add]
    exact congrArg nI (cntL_cg _ _ (fun i i1 i2 => (hB i (Nat.zero_le _) (by omega)).2.2.1))
  · have hbr : brO t ts T k = false := by unfold brO; rw [hF]; simp [h1]
    have hdf : dfO t ts T k = true := by unfold dfO; rw [hF]; simp [h1, h2]
    rw [pr_cg hnv] at h4
    obtain ⟨x, q1, q2⟩ := ev_def hz hdp hn h4 h3
    have q1 : eGo (tMk t ts) (tTv t ts) (tSl ts) (fun nm => mNam (dfO t ts T) (mSm t ts) (tF T) va nm k 0 (nI 0)) (if dfO t ts T k = true then tF T k + 2 else tF T k) (tL T k - (if dfO t ts T k = true then tF T k + 2 else tF T k)) (if dfO t ts T k = true then tF T k + 2 else tF T k) [eFirst] true = some (x :: []) := by
      rw [if_pos hdf, hF, hL]; exact q1
    refine ⟨fun _ => ⟨by rw [if_pos hdf, hF, hL]; exact h3, x, [], q1⟩, ?_⟩
    rw [fVal_go hbr q1, q2]
  · have hbr : brO t ts T k = false := by unfold brO; rw [hF]; simp [h1]
    have hdf : ¬ dfO t ts T k = true := by unfold dfO; rw [hF]; simp [h2]
    rw [pr_cg hnv] at h4
    obtain ⟨x, q1, q2⟩ := ev_cal hz hdp hn h1 h2 h4 h3
    have q1 : eGo (tMk t ts) (tTv t ts) (tSl ts) (fun nm => mNam (dfO t ts T) (mSm t ts) (tF T) va nm k 0 (nI 0)) (if dfO t ts T k = true then tF T k + 2 else tF T k) (tL T k - (if dfO t ts T k = true then tF T k + 2 else tF T k)) (if dfO t ts T k = true then tF T k + 2 else tF T k) [eFirst] true = some (x :: []) := by
      rw [if_neg hdf, hF, hL]; exact q1
    refine ⟨fun _ => ⟨by rw [if_neg hdf, hF, hL]; omega, x, [], q1⟩, ?_⟩
    rw [fVal_go hbr q1, q2]
theorem val_all (ho : tsOk e ts) (hs : tsSg t ts) {T : pTr} {B : aB} {C : Nat} (hC : C ≤ 160) (hi : ∀ j, j < C → itOk ts.length (tMk t ts) (tTv t ts) (tSl ts) (tSm t ts) T C j) (hB : gEq (tMk t ts) T B 0 C) (V0 : Nat → Int32) : ∀ k, k ≤ C → ∀ i, i < k → fAll (fVal t ts B.2.1 B.2.2.1 B.2.2.2.1 C (tF T) (tL T) (brO t ts T) (dfO t ts T)) V0 k i = T.2.2.2.2 i
  | 0, _, i, h => absurd h (by omega)
  | k + 1, hk, i, h => by
    have ih := val_all ho hs hC hi hB V0 k (by omega)
    rw [fAll]
    by_cases hik : i = k
    · subst hik
      simp only [upd, if_true]
      exact (val_one ho hs hC (by omega) hi hB ih).2
    · simp only [upd, if_neg hik]
      exact ih i (by omega)
/-- all that reading leaves -/
theorem rd_eq (ho : tsOk e ts) (hs : tsSg t ts) (T0 : pTr) (hT0 : T0.1 = 0) (cur : Nat) (A : (Nat → Int32) × (Nat → Int32) × (Nat → Int32) × (Nat → Int32) × (Nat → Int32)) :
  aFl e ts (aX t ts (([], 0, 0, cur), A)) = (if (eA t ts T0).1.2 = true then (if (eA t ts T0).1.1 < ts.length then nI (tk ts (eA t ts T0).1.1).1 else nI e) else -1) ∧
  (aX t ts (([], 0, 0, cur), A)).2.2.1.2.2.1 = (eA t ts T0).2.1 ∧ (eA t ts T0).2.1 ≤ 160 ∧
  gEq (tMk t ts) (eA t ts T0).2 (aX t ts (([], 0, 0, cur), A)).2.2 0 (eA t ts T0).2.1 ∧
  (∀ j, j < (eA t ts T0).2.1 → itOk ts.length (tMk t ts) (tTv t ts) (tSl ts) (tSm t ts) (eA t ts T0).2 (eA t ts T0).2.1 j) ∧
  FOk t ts (aX t ts (([], 0, 0, cur), A)).2.2 (tF (eA t ts T0).2) (tL (eA t ts T0).2) (brO t ts (eA t ts T0).2) (dfO t ts (eA t ts T0).2) ∧
  ∀ V0 j, j < (eA t ts T0).2.1 → fAll (fVal t ts (aX t ts (([], 0, 0, cur), A)).2.2.2.1 (aX t ts (([], 0, 0, cur), A)).2.2.2.2.1 (aX t ts (([], 0, 0, cur), A)).2.2.2.2.2.1 (aX t ts (([], 0, 0, cur), A)).2.2.1.2.2.1 (tF (eA t ts T0).2) (tL (eA t ts T0).2) (brO t ts (eA t ts T0).2) (dfO t ts (eA t ts T0).2)) V0 (aX t ts (([], 0, 0, cur), A)).2.2.1.2.2.1 j = (eA t ts T0).2.2.2.2.2 j := by
  have hn : ts.length ≤ 160 := Nat.le_trans ho.2.1 ho.1
  obtain ⟨B', g1, g2, g3⟩ := g_A (mk := tMk t ts) (tv := tTv t ts) (sl := tSl ts) (same := tSm t ts) hn 160 0 0 T0 (([], 0, 0, cur), A) rfl hT0 rfl (by omega) (by omega) (by omega) (by omega) (fun j j1 j2 => by omega)
  have hall := s_A (mk := tMk t ts) (tv := tTv t ts) (sl := tSl ts) (same := tSm t ts) (tsm_no ho hs) hn 160 0 0 T0 (by omega) (fun j hj => by omega)
  have hcnt := (pA_dn (nT := ts.length) (mk := tMk t ts) (tv := tTv t ts) (sl := tSl ts) (same := tSm t ts) 160 0 (0, false) T0 (Nat.zero_le _) (fun j _ hj => by omega) ⟨by omega, fun j hj => by omega⟩).2.2.1
  have hg : gR ts.length (tMk t ts) 0 (0, []) (([], 0, 0, cur), A) = ((aX t ts (([], 0, 0, cur), A)).1, decide ((aX t ts (([], 0, 0, cur), A)).1 = ts.length ∧ (aX t ts (([], 0, 0, cur), A)).2.1.1 = 0 ∧ (aX t ts (([], 0, 0, cur), A)).2.1.2.length = 0), (aX t ts (([], 0, 0, cur), A)).2.2) := rfl
  rw [hg] at g1
  have hE : pA ts.length (tMk t ts) (tTv t ts) (tSl ts) (tSm t ts) 160 0 (0, false) T0 = eA t ts T0 := rfl
  rw [hE] at g1 g2 g3 hall hcnt
  generalize eA t ts T0 = E at g1 g2 g3 hall hcnt ⊢
  generalize aX t ts (([], 0, 0, cur), A) = X at g1 ⊢
  have q1 : X.1 = E.1.1 := congrArg (fun x => x.1) g1
  have q2 : decide (X.1 = ts.length ∧ X.2.1.1 = 0 ∧ X.2.1.2.length = 0) = !E.1.2 := congrArg (fun x => x.2.1) g1
  have q3 : X.2.2 = B' := congrArg (fun x => x.2.2) g1
  subst q3
  have hone := fun k hk va hva => val_one (k := k) (va := va) ho hs hcnt hk hall g3 hva
  refine ⟨?_, g2, hcnt, g3, hall, ?_, ?_⟩
  · unfold aFl
    cases hu : E.1.2 with
    | false =>
      rw [hu] at q2
      have := of_decide_eq_true q2
      rw [if_pos this, if_neg (by decide)]
    | true =>
      rw [hu] at q2
      have := of_decide_eq_false q2
      rw [if_neg this, if_pos rfl, q1]
  · rw [FOk, g2]
    refine ⟨hcnt, fun k hk => ?_, fun k hk => ?_, fun k hk => (g3 k (Nat.zero_le _) hk).2.2.2.1, fun k hk => (g3 k (Nat.zero_le _) hk).2.2.2.2, fun k hk => ?_, fun k hk hb => ?_, fun V0 k hk hb va hva => ?_⟩
    · obtain ⟨a, z, dp, e1, e2, e3, haz, hz, -⟩ := hall k hk
      have hF : tF E.2 k = a := by unfold tF; rw [e1]; exact nI_clamp (by omega)
      rw [(g3 k (Nat.zero_le _) hk).1, e1, hF]
    · obtain ⟨a, z, dp, e1, e2, e3, haz, hz, -⟩ := hall k hk
      have hL : tL E.2 k = z := by unfold tL; rw [e2]; exact nI_clamp (by omega)
      rw [(g3 k (Nat.zero_le _) hk).2.1, e2, hL]
    · exact itOk_tL hn (hall k hk)
    · exact ((hone k hk E.2.2.2.2.2 (fun _ _ => rfl)).1 hb).1
    · exact ((hone k hk va (fun i hi => by rw [hva]; exact val_all ho hs hcnt hall g3 V0 k (by omega) i hi)).1 hb).2
  · intro V0 j hj
    rw [g2]
    exact val_all ho hs hcnt hall g3 V0 _ (Nat.le_refl _) j hj
end
