/- the reference: operate (rows laid by program) -/
def eOp (c : Nat) (x : eF) : eF := if c = 44 then (nI 0, nI 1, nI 1, x.2.2.2.1, nI 31 * x.2.2.2.2.1 + eTot x, x.2.2.2.2.2) else if c = 42 then x else (eTot x, (if c = 43 then nI 1 else -1), nI 1, x.2.2.2)
theorem mtkE {M M' : zM} {e : Nat} {t : Nat → Nat} {ts : List (Nat × Nat × Nat)} (h : zSame sE M M') (hk : MTk M e t ts) : MTk M' e t ts := by
  obtain ⟨hT, hk, ho, hs⟩ := hk
  exact ⟨⟨(h.2 _ _ (by unfold sE; omega)).trans hT.1, hT.2.1, fun i hi => ⟨(h.2 _ _ (by unfold sE; omega)).trans (hT.2.2 i hi).1, (hT.2.2 i hi).2⟩⟩, ⟨(h.2 _ _ (by unfold sE; omega)).trans hk.1, fun k q hq => ⟨(h.2 _ _ (by unfold sE; omega)).trans (hk.2 k q hq).1, (h.2 _ _ (by unfold sE; omega)).trans (hk.2 k q hq).2.1, (h.2 _ _ (by unfold sE; omega)).trans (hk.2 k q hq).2.2⟩⟩, ho, hs⟩
section
variable {Lx : Nat} {xs : Nat → Int32} {d : Nat} {M : zM} {n b : Nat}
set_option maxRecDepth 100000 in
set_option maxHeartbeats 4000000 in
theorem r_operate {e k : Nat} {t : Nat → Nat} {ts : List (Nat × Nat × Nat)} {x : eF} {r : List eF} (hP : M.2.1 = zP0 n b) (hk : MTk M e t ts) (hk2 : k < ts.length) (hE : EV M (x :: r)) : Ct Lx xs (d + 1) mM_operate [.ref 25, .int (nI k)] M (fun q M' => q = none ∧ zSame sE M M' ∧ EV M' (eOp (tMk t ts k) x :: r)) := by
  unfold Ct
  have he := hk.1.2.1
  have hlen := hk.2.2.1.2.1
  have hl : r.length + 1 ≤ 16 := hE.2.1
  have hd : M.1 25 36 = nI r.length := hE.1
  obtain ⟨t1, t2, t3, t4, t5, t6, t7⟩ := hE.top
  refine ev_al dM_operate_0 rfl (by first | assumption | rfl) ?_
  refine ev_il dM_operate_1 rfl (by first | assumption | rfl) ?_
  refine ev_const (v := nI 44) dM_operate_2 (by decide) ?_
  refine ev_pV dM_operate_4 (r_is (M := M) hP hk hk2 (by decide)) lM_153 rec_M rfl (Nat.le_of_ble_eq_true rfl) rfl (Nat.le_of_ble_eq_true rfl) ?_
  refine ev_if0 (tgt := 45) dM_operate_7 (by decide) (fun h7 => ?_) (fun h7 => ?_)
  · simp only [zcond, zb0, Classical.not_not, Bool.not_eq_false, Bool.not_eq_true, decide_eq_true_eq, decide_eq_false_iff_not] at h7
    refine ev_al dM_operate_45 rfl (by first | assumption | rfl) ?_
    refine ev_il dM_operate_46 rfl (by first | assumption | rfl) ?_
    refine ev_const (v := nI 42) dM_operate_47 (by decide) ?_
    refine ev_pV dM_operate_49 (r_is (M := M) hP hk hk2 (by decide)) lM_153 rec_M rfl (Nat.le_of_ble_eq_true rfl) rfl (Nat.le_of_ble_eq_true rfl) ?_
    refine ev_if0 (tgt := 78) dM_operate_52 (by decide) (fun h52 => ?_) (fun h52 => ?_)
    · simp only [zcond, zb0, Classical.not_not, Bool.not_eq_false, Bool.not_eq_true, decide_eq_true_eq, decide_eq_false_iff_not] at h52
      refine ev_vret dM_operate_78 rfl ?_
      unfold eOp
      first
      | (rw [if_pos h7]
         exact ⟨rfl, ((zSame.rf sE M).I (by unfold sE; omega)).tr hs2, hE2⟩)
      | (rw [if_neg h7, if_pos h52]
         exact ⟨rfl, zSame.rf _ _, hE⟩)
      | (rw [if_neg h7, if_neg h52, if_pos h67]
         exact ⟨rfl, hs2, hE2⟩)
      | (rw [if_neg h7, if_neg h52, if_neg h67]
         exact ⟨rfl, hs2, hE2⟩)
    · simp only [zcond, zb0, Classical.not_not, Bool.not_eq_false, Bool.not_eq_true, decide_eq_true_eq, decide_eq_false_iff_not] at h52
      refine ev_al dM_operate_55 rfl (by first | assumption | rfl) ?_
      refine ev_al dM_operate_56 rfl (by first | assumption | rfl) ?_
      refine ev_pV dM_operate_57 (r_total hP hE) lM_194 rec_M rfl (Nat.le_of_ble_eq_true rfl) rfl (Nat.le_of_ble_eq_true rfl) ?_
      refine ev_al dM_operate_60 rfl (by first | assumption | rfl) ?_
      refine ev_il dM_operate_61 rfl (by first | assumption | rfl) ?_
      refine ev_const (v := nI 43) dM_operate_62 (by decide) ?_
      refine ev_pV dM_operate_64 (r_is (M := M) hP hk hk2 (by decide)) lM_153 rec_M rfl (Nat.le_of_ble_eq_true rfl) rfl (Nat.le_of_ble_eq_true rfl) ?_
      refine ev_if0 (tgt := 74) dM_operate_67 (by decide) (fun h67 => ?_) (fun h67 => ?_)
      · simp only [zcond, zb0, Classical.not_not, Bool.not_eq_false, Bool.not_eq_true, decide_eq_true_eq, decide_eq_false_iff_not] at h67
        refine ev_const (v := -1) dM_operate_74 (by decide) ?_
        refine ev_cV dM_operate_75 (r_restart hP hE) lM_197 rec_M rfl (Nat.le_of_ble_eq_true rfl) rfl (Nat.le_of_ble_eq_true rfl) (fun z M2 hz => ?_)
        obtain ⟨rfl, hs2, hE2⟩ := hz
        refine ev_vret dM_operate_78 rfl ?_
        unfold eOp
        first
        | (rw [if_pos h7]
           exact ⟨rfl, ((zSame.rf sE M).I (by unfold sE; omega)).tr hs2, hE2⟩)
        | (rw [if_neg h7, if_pos h52]
           exact ⟨rfl, zSame.rf _ _, hE⟩)
        | (rw [if_neg h7, if_neg h52, if_pos h67]
           exact ⟨rfl, hs2, hE2⟩)
        | (rw [if_neg h7, if_neg h52, if_neg h67]
           exact ⟨rfl, hs2, hE2⟩)
      · simp only [zcond, zb0, Classical.not_not, Bool.not_eq_false, Bool.not_eq_true, decide_eq_true_eq, decide_eq_false_iff_not] at h67
        refine ev_const (v := nI 1) dM_operate_70 (by decide) ?_
        refine ev_goto (tgt := 75) dM_operate_71 (by decide) ?_
        refine ev_cV dM_operate_75 (r_restart hP hE) lM_197 rec_M rfl (Nat.le_of_ble_eq_true rfl) rfl (Nat.le_of_ble_eq_true rfl) (fun z M2 hz => ?_)
        obtain ⟨rfl, hs2, hE2⟩ := hz
        refine ev_vret dM_operate_78 rfl ?_
        unfold eOp
        first
        | (rw [if_pos h7]
           exact ⟨rfl, ((zSame.rf sE M).I (by unfold sE; omega)).tr hs2, hE2⟩)
        | (rw [if_neg h7, if_pos h52]
           exact ⟨rfl, zSame.rf _ _, hE⟩)
        | (rw [if_neg h7, if_neg h52, if_pos h67]
           exact ⟨rfl, hs2, hE2⟩)
        | (rw [if_neg h7, if_neg h52, if_neg h67]
           exact ⟨rfl, hs2, hE2⟩)
  · simp only [zcond, zb0, Classical.not_not, Bool.not_eq_false, Bool.not_eq_true, decide_eq_true_eq, decide_eq_false_iff_not] at h7
    refine ev_al dM_operate_10 rfl (by first | assumption | rfl) ?_
    refine ev_getrP dM_operate_11 fM_91 rfl (zq (q := 51) hP rfl) ?_
    refine ev_al dM_operate_14 rfl (by first | assumption | rfl) ?_
    refine ev_geti dM_operate_15 fM_191 rfl ?_
    rw [hd]
    refine ev_const (v := nI 31) dM_operate_18 (by decide) ?_
    refine ev_al dM_operate_20 rfl (by first | assumption | rfl) ?_
    refine ev_getrP dM_operate_21 fM_91 rfl (zq (q := 51) hP rfl) ?_
    refine ev_al dM_operate_24 rfl (by first | assumption | rfl) ?_
    refine ev_geti dM_operate_25 fM_191 rfl ?_
    rw [hd]
    refine ev_aldN dM_operate_28 rfl rfl (by omega) ?_
    rw [t5]
    refine ev_mul dM_operate_29 ?_
    refine ev_al dM_operate_30 rfl (by first | assumption | rfl) ?_
    refine ev_pV dM_operate_31 (r_total hP hE) lM_194 rec_M rfl (Nat.le_of_ble_eq_true rfl) rfl (Nat.le_of_ble_eq_true rfl) ?_
    refine ev_add dM_operate_34 ?_
    refine ev_iastN dM_operate_35 rfl (by omega) ?_
    refine ev_al dM_operate_36 rfl (by first | assumption | rfl) ?_
    refine ev_const (v := nI 0) dM_operate_37 (by decide) ?_
    refine ev_const (v := nI 1) dM_operate_38 (by decide) ?_
    have hE1 : EV (zI M 51 r.length (nI 31 * x.2.2.2.2.1 + eTot x)) ((x.1, x.2.1, x.2.2.1, x.2.2.2.1, nI 31 * x.2.2.2.2.1 + eTot x, x.2.2.2.2.2) :: r) := by
      refine hE.new ((zI_o (by omega)).trans hd) ⟨(zI_o (by omega)).trans t1, (zI_o (by omega)).trans t2, (zI_o (by omega)).trans t3, (zI_o (by omega)).trans t4, zI_s _ _ _ _, (zI_o (by omega)).trans t6, t7⟩ ?_
      intro i hi o h1 h2
      have hir : i ≠ r.length := by omega
      simp [zI_at, hir]
    refine ev_cV dM_operate_39 (r_restart (M := (zI M 51 r.length (nI 31 * x.2.2.2.2.1 + eTot x))) (p := nI 0) (s := nI 1) hP hE1) lM_197 rec_M rfl (Nat.le_of_ble_eq_true rfl) rfl (Nat.le_of_ble_eq_true rfl) (fun z M2 hz => ?_)
    obtain ⟨rfl, hs2, hE2⟩ := hz
    refine ev_goto (tgt := 78) dM_operate_42 (by decide) ?_
    refine ev_vret dM_operate_78 rfl ?_
    unfold eOp
    first
    | (rw [if_pos h7]
       exact ⟨rfl, ((zSame.rf sE M).I (by unfold sE; omega)).tr hs2, hE2⟩)
    | (rw [if_neg h7, if_pos h52]
       exact ⟨rfl, zSame.rf _ _, hE⟩)
    | (rw [if_neg h7, if_neg h52, if_pos h67]
       exact ⟨rfl, hs2, hE2⟩)
    | (rw [if_neg h7, if_neg h52, if_neg h67]
       exact ⟨rfl, hs2, hE2⟩)
end
