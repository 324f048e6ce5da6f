/- the reference: the evaluator's frames (rows laid by program) -/
/-- sum, sign, term, minus, list, is it a list -/
abbrev eF : Type := Int32 × Int32 × Int32 × Nat × Int32 × Bool
def eF0 : eF := (0, 0, 0, 0, 0, false)
def fAt (M : zM) (i : Nat) (x : eF) : Prop := M.1 47 i = x.1 ∧ M.1 48 i = x.2.1 ∧ M.1 49 i = x.2.2.1 ∧ M.1 50 i = nI x.2.2.2.1 ∧ M.1 51 i = x.2.2.2.2.1 ∧ M.1 52 i = nI x.2.2.2.2.2.toNat ∧ x.2.2.2.1 < 2 ^ 30
/-- the frames, the innermost first -/
def EV (M : zM) (fs : List eF) : Prop := M.1 25 36 = zd fs.length ∧ fs.length ≤ 16 ∧ ∀ i, i < fs.length → fAt M i (fs.reverse.getD i eF0)
def sE : Nat → Nat → Prop := fun o i => (o = 25 ∧ i = 36) ∨ (47 ≤ o ∧ o ≤ 52)
theorem revG_cons {o : List eF} {x : eF} {i : Nat} (h : i < o.length) : (x :: o).reverse.getD i eF0 = o.reverse.getD i eF0 := by
  rw [List.reverse_cons, List.getD_eq_getElem?_getD, List.getD_eq_getElem?_getD, List.getElem?_append_left (by simpa using h)]
theorem revG_last {o : List eF} {x : eF} : (x :: o).reverse.getD o.length eF0 = x := by
  rw [List.reverse_cons, List.getD_eq_getElem?_getD, List.getElem?_append_right (by simp)]; simp
section
variable {Lx : Nat} {xs : Nat → Int32} {d : Nat} {M : zM} {n b : Nat}
theorem EV.top {x : eF} {r : List eF} (h : EV M (x :: r)) : fAt M r.length x := by
  have := h.2.2 r.length (by simp)
  rw [revG_last] at this
  exact this
theorem EV.new {M' : zM} {x y : eF} {r : List eF} (h : EV M (x :: r)) (h1 : M'.1 25 36 = nI r.length) (hy : fAt M' r.length y) (ho : ∀ i, i < r.length → ∀ o, 47 ≤ o → o ≤ 52 → M'.1 o i = M.1 o i) : EV M' (y :: r) := by
  refine ⟨h1, h.2.1, fun i hi => ?_⟩
  have hi : i < r.length + 1 := hi
  by_cases hir : i = r.length
  · subst hir; rw [revG_last]; exact hy
  · have hi2 : i < r.length := by omega
    have h3 := h.2.2 i (by show i < r.length + 1; omega)
    rw [revG_cons hi2] at h3 ⊢
    obtain ⟨a1, a2, a3, a4, a5, a6, a7⟩ := h3
    exact ⟨(ho i hi2 47 (by omega) (by omega)).trans a1, (ho i hi2 48 (by omega) (by omega)).trans a2, (ho i hi2 49 (by omega) (by omega)).trans a3, (ho i hi2 50 (by omega) (by omega)).trans a4, (ho i hi2 51 (by omega) (by omega)).trans a5, (ho i hi2 52 (by omega) (by omega)).trans a6, a7⟩
theorem EV.push {M' : zM} {y : eF} {r : List eF} (h : EV M r) (hl : r.length < 16) (h1 : M'.1 25 36 = nI r.length) (hy : fAt M' r.length y) (ho : ∀ i, i < r.length → ∀ o, 47 ≤ o → o ≤ 52 → M'.1 o i = M.1 o i) : EV M' (y :: r) := by
  refine ⟨h1, hl, fun i hi => ?_⟩
  have hi : i < r.length + 1 := hi
  by_cases hir : i = r.length
  · subst hir; rw [revG_last]; exact hy
  · have hi2 : i < r.length := by omega
    rw [revG_cons hi2]
    obtain ⟨a1, a2, a3, a4, a5, a6, a7⟩ := h.2.2 i hi2
    exact ⟨(ho i hi2 47 (by omega) (by omega)).trans a1, (ho i hi2 48 (by omega) (by omega)).trans a2, (ho i hi2 49 (by omega) (by omega)).trans a3, (ho i hi2 50 (by omega) (by omega)).trans a4, (ho i hi2 51 (by omega) (by omega)).trans a5, (ho i hi2 52 (by omega) (by omega)).trans a6, a7⟩
theorem EV.pop {x : eF} {r : List eF} (h : EV M (x :: r)) : EV (zI M 25 36 (zd r.length)) r := by
  have hl : r.length + 1 ≤ 16 := h.2.1
  refine ⟨zI_s _ _ _ _, by omega, fun i hi => ?_⟩
  have h3 := h.2.2 i (by show i < r.length + 1; omega)
  rw [revG_cons hi] at h3
  obtain ⟨a1, a2, a3, a4, a5, a6, a7⟩ := h3
  exact ⟨(zI_o (by omega)).trans a1, (zI_o (by omega)).trans a2, (zI_o (by omega)).trans a3, (zI_o (by omega)).trans a4, (zI_o (by omega)).trans a5, (zI_o (by omega)).trans a6, a7⟩
def eTot (x : eF) : Int32 := x.1 + x.2.1 * x.2.2.1
set_option maxRecDepth 100000 in
set_option maxHeartbeats 4000000 in
theorem r_total {x : eF} {r : List eF} (hP : M.2.1 = zP0 n b) (hE : EV M (x :: r)) : Pu Lx xs d mM_total [.ref 25] M (eTot x) := by
  unfold Pu Ct
  have hl : r.length + 1 ≤ 16 := hE.2.1
  have hd : M.1 25 36 = nI r.length := hE.1
  obtain ⟨t1, t2, t3, t4, t5, t6, t7⟩ := hE.top
  refine ev_al dM_total_0 rfl (by first | assumption | rfl) ?_
  refine ev_getrP dM_total_1 fM_79 rfl (zq (q := 47) hP rfl) ?_
  refine ev_al dM_total_4 rfl (by first | assumption | rfl) ?_
  refine ev_geti dM_total_5 fM_191 rfl ?_
  rw [hd]
  refine ev_aldN dM_total_8 rfl rfl (by omega) ?_
  refine ev_al dM_total_9 rfl (by first | assumption | rfl) ?_
  refine ev_getrP dM_total_10 fM_82 rfl (zq (q := 48) hP rfl) ?_
  refine ev_al dM_total_13 rfl (by first | assumption | rfl) ?_
  refine ev_geti dM_total_14 fM_191 rfl ?_
  rw [hd]
  refine ev_aldN dM_total_17 rfl rfl (by omega) ?_
  refine ev_al dM_total_18 rfl (by first | assumption | rfl) ?_
  refine ev_getrP dM_total_19 fM_85 rfl (zq (q := 49) hP rfl) ?_
  refine ev_al dM_total_22 rfl (by first | assumption | rfl) ?_
  refine ev_geti dM_total_23 fM_191 rfl ?_
  rw [hd]
  refine ev_aldN dM_total_26 rfl rfl (by omega) ?_
  refine ev_mul dM_total_27 ?_
  refine ev_add dM_total_28 ?_
  refine ev_ret dM_total_29 rfl rfl ?_
  exact ⟨by unfold eTot; rw [t1, t2, t3], rfl⟩
set_option maxRecDepth 100000 in
set_option maxHeartbeats 4000000 in
theorem r_restart {p s : Int32} {x : eF} {r : List eF} (hP : M.2.1 = zP0 n b) (hE : EV M (x :: r)) : Ct Lx xs d mM_restart [.ref 25, .int p, .int s] M (fun q M' => q = none ∧ zSame sE M M' ∧ EV M' ((p, s, nI 1, x.2.2.2) :: r)) := by
  unfold Ct
  have hl : r.length + 1 ≤ 16 := hE.2.1
  have hd : M.1 25 36 = nI r.length := hE.1
  obtain ⟨t1, t2, t3, t4, t5, t6, t7⟩ := hE.top
  refine ev_al dM_restart_0 rfl (by first | assumption | rfl) ?_
  refine ev_getrP dM_restart_1 fM_79 rfl (zq (q := 47) hP rfl) ?_
  refine ev_al dM_restart_4 rfl (by first | assumption | rfl) ?_
  refine ev_geti dM_restart_5 fM_191 rfl ?_
  rw [hd]
  refine ev_il dM_restart_8 rfl (by first | assumption | rfl) ?_
  refine ev_iastN dM_restart_9 rfl (by omega) ?_
  refine ev_al dM_restart_10 rfl (by first | assumption | rfl) ?_
  refine ev_getrP dM_restart_11 fM_82 rfl (zq (q := 48) hP rfl) ?_
  refine ev_al dM_restart_14 rfl (by first | assumption | rfl) ?_
  refine ev_geti dM_restart_15 fM_191 rfl ?_
  rw [show (zI M 47 r.length p).1 25 36 = nI r.length from (zI_o (by omega)).trans (hd)]
  refine ev_il dM_restart_18 rfl (by first | assumption | rfl) ?_
  refine ev_iastN dM_restart_19 rfl (by omega) ?_
  refine ev_al dM_restart_20 rfl (by first | assumption | rfl) ?_
  refine ev_getrP dM_restart_21 fM_85 rfl (zq (q := 49) hP rfl) ?_
  refine ev_al dM_restart_24 rfl (by first | assumption | rfl) ?_
  refine ev_geti dM_restart_25 fM_191 rfl ?_
  rw [show (zI (zI M 47 r.length p) 48 r.length s).1 25 36 = nI r.length from (zI_o (by omega)).trans ((zI_o (by omega)).trans (hd))]
  refine ev_const (v := nI 1) dM_restart_28 (by decide) ?_
  refine ev_iastN dM_restart_29 rfl (by omega) ?_
  refine ev_vret dM_restart_30 rfl ?_
  refine ⟨rfl, (((zSame.rf sE M).I (by unfold sE; omega)).I (by unfold sE; omega)).I (by unfold sE; omega), hE.new ?_ ?_ ?_⟩
  · exact (zI_o (by omega)).trans ((zI_o (by omega)).trans ((zI_o (by omega)).trans hd))
  · exact ⟨by simp [zI_at], by simp [zI_at], by simp [zI_at], by simpa [zI_at] using t4, by simpa [zI_at] using t5, by simpa [zI_at] using t6, t7⟩
  · intro i hi o h1 h2
    have hir : i ≠ r.length := by omega
    simp [zI_at, hir]
set_option maxRecDepth 100000 in
set_option maxHeartbeats 4000000 in
theorem r_take {v : Int32} {x : eF} {r : List eF} (hP : M.2.1 = zP0 n b) (hE : EV M (x :: r)) : Ct Lx xs d mM_take [.ref 25, .int v] M (fun q M' => q = none ∧ zSame sE M M' ∧ EV M' ((x.1, x.2.1, (if x.2.2.2.1 % 2 = 1 then -(x.2.2.1 * v) else x.2.2.1 * v), 0, x.2.2.2.2) :: r)) := by
  unfold Ct
  have hl : r.length + 1 ≤ 16 := hE.2.1
  have hd : M.1 25 36 = nI r.length := hE.1
  obtain ⟨t1, t2, t3, t4, t5, t6, t7⟩ := hE.top
  refine ev_al dM_take_0 rfl (by first | assumption | rfl) ?_
  refine ev_getrP dM_take_1 fM_85 rfl (zq (q := 49) hP rfl) ?_
  refine ev_al dM_take_4 rfl (by first | assumption | rfl) ?_
  refine ev_geti dM_take_5 fM_191 rfl ?_
  rw [hd]
  refine ev_al dM_take_8 rfl (by first | assumption | rfl) ?_
  refine ev_getrP dM_take_9 fM_88 rfl (zq (q := 50) hP rfl) ?_
  refine ev_al dM_take_12 rfl (by first | assumption | rfl) ?_
  refine ev_geti dM_take_13 fM_191 rfl ?_
  rw [hd]
  refine ev_aldN dM_take_16 rfl rfl (by omega) ?_
  rw [t4]
  refine ev_const (v := nI 2) dM_take_17 (by decide) ?_
  refine ev_remN dM_take_18 (by omega) (by omega) (by omega) ?_
  refine ev_const (v := nI 1) dM_take_19 (by decide) ?_
  refine ev_icmp (tgt := 38) dM_take_20 (by decide) (fun h20 => ?_) (fun h20 => ?_)
  · simp (disch := omega) only [zcond, nI_eq, Classical.not_not] at h20
    refine ev_al dM_take_38 rfl (by first | assumption | rfl) ?_
    refine ev_getrP dM_take_39 fM_85 rfl (zq (q := 49) hP rfl) ?_
    refine ev_al dM_take_42 rfl (by first | assumption | rfl) ?_
    refine ev_geti dM_take_43 fM_191 rfl ?_
    rw [hd]
    refine ev_aldN dM_take_46 rfl rfl (by omega) ?_
    rw [t3]
    refine ev_il dM_take_47 rfl (by first | assumption | rfl) ?_
    refine ev_mul dM_take_48 ?_
    refine ev_iastN dM_take_49 rfl (by omega) ?_
    refine ev_al dM_take_50 rfl (by first | assumption | rfl) ?_
    refine ev_getrP dM_take_51 fM_88 rfl (zq (q := 50) hP rfl) ?_
    refine ev_al dM_take_54 rfl (by first | assumption | rfl) ?_
    refine ev_geti dM_take_55 fM_191 rfl ?_
    rw [show (zI M 49 r.length _).1 25 36 = nI r.length from (zI_o (by omega)).trans hd]
    refine ev_const (v := nI 0) dM_take_58 (by decide) ?_
    refine ev_iastN dM_take_59 rfl (by omega) ?_
    refine ev_vret dM_take_60 rfl ?_
    refine ⟨rfl, ((zSame.rf sE M).I (by unfold sE; omega)).I (by unfold sE; omega), hE.new ?_ ?_ ?_⟩
    · exact (zI_o (by omega)).trans ((zI_o (by omega)).trans hd)
    · first
      | (rw [if_pos h20]; exact ⟨by simpa [zI_at] using t1, by simpa [zI_at] using t2, by simp [zI_at], by simp [zI_at], by simpa [zI_at] using t5, by simpa [zI_at] using t6, by show 0 < 2 ^ 30; decide⟩)
      | (rw [if_neg h20]; exact ⟨by simpa [zI_at] using t1, by simpa [zI_at] using t2, by simp [zI_at], by simp [zI_at], by simpa [zI_at] using t5, by simpa [zI_at] using t6, by show 0 < 2 ^ 30; decide⟩)
    · intro i hi o h1 h2
      have hir : i ≠ r.length := by omega
      simp [zI_at, hir]
  · simp (disch := omega) only [zcond, nI_eq, Classical.not_not] at h20
    refine ev_al dM_take_23 rfl (by first | assumption | rfl) ?_
    refine ev_getrP dM_take_24 fM_85 rfl (zq (q := 49) hP rfl) ?_
    refine ev_al dM_take_27 rfl (by first | assumption | rfl) ?_
    refine ev_geti dM_take_28 fM_191 rfl ?_
    rw [hd]
    refine ev_aldN dM_take_31 rfl rfl (by omega) ?_
    rw [t3]
    refine ev_il dM_take_32 rfl (by first | assumption | rfl) ?_
    refine ev_mul dM_take_33 ?_
    refine ev_un dM_take_34 rfl ?_
    refine ev_goto (tgt := 49) dM_take_35 (by decide) ?_
    refine ev_iastN dM_take_49 rfl (by omega) ?_
    refine ev_al dM_take_50 rfl (by first | assumption | rfl) ?_
    refine ev_getrP dM_take_51 fM_88 rfl (zq (q := 50) hP rfl) ?_
    refine ev_al dM_take_54 rfl (by first | assumption | rfl) ?_
    refine ev_geti dM_take_55 fM_191 rfl ?_
    rw [show (zI M 49 r.length _).1 25 36 = nI r.length from (zI_o (by omega)).trans hd]
    refine ev_const (v := nI 0) dM_take_58 (by decide) ?_
    refine ev_iastN dM_take_59 rfl (by omega) ?_
    refine ev_vret dM_take_60 rfl ?_
    refine ⟨rfl, ((zSame.rf sE M).I (by unfold sE; omega)).I (by unfold sE; omega), hE.new ?_ ?_ ?_⟩
    · exact (zI_o (by omega)).trans ((zI_o (by omega)).trans hd)
    · first
      | (rw [if_pos h20]; exact ⟨by simpa [zI_at] using t1, by simpa [zI_at] using t2, by simp [zI_at], by simp [zI_at], by simpa [zI_at] using t5, by simpa [zI_at] using t6, by show 0 < 2 ^ 30; decide⟩)
      | (rw [if_neg h20]; exact ⟨by simpa [zI_at] using t1, by simpa [zI_at] using t2, by simp [zI_at], by simp [zI_at], by simpa [zI_at] using t5, by simpa [zI_at] using t6, by show 0 < 2 ^ 30; decide⟩)
    · intro i hi o h1 h2
      have hir : i ≠ r.length := by omega
      simp [zI_at, hir]
set_option maxRecDepth 100000 in
set_option maxHeartbeats 4000000 in
theorem r_enter {r : List eF} {li : Bool} {le : Int32} (hP : M.2.1 = zP0 n b) (hE : EV M r) (hl : r.length < 16) : Ct Lx xs d mM_enter [.ref 25, .int (nI li.toNat), .int le] M (fun q M' => q = none ∧ zSame sE M M' ∧ EV M' ((nI 0, nI 1, nI 1, 0, le, li) :: r)) := by
  unfold Ct
  have hli : li.toNat < 2 := by cases li <;> decide
  have hzd : zd r.length + nI 1 = nI r.length := by
    cases r with
    | nil => decide
    | cons y r => exact nI_1 r.length
  refine ev_al dM_enter_0 rfl (by first | assumption | rfl) ?_
  refine ev_stk dM_enter_1 rfl ?_
  refine ev_geti dM_enter_2 fM_191 rfl ?_
  rw [hE.1]
  refine ev_const (v := nI 1) dM_enter_5 (by decide) ?_
  refine ev_add dM_enter_6 ?_
  refine ev_puti dM_enter_7 fM_191 fwM_deep rfl (vp_nar_int _) rfl ?_
  refine ev_mem (M' := (zI M 25 36 (nI r.length))) (by rw [hzd]) ?_
  refine ev_al dM_enter_10 rfl (by first | assumption | rfl) ?_
  refine ev_getrP dM_enter_11 fM_79 rfl (zq (q := 47) hP rfl) ?_
  refine ev_al dM_enter_14 rfl (by first | assumption | rfl) ?_
  refine ev_geti dM_enter_15 fM_191 rfl ?_
  rw [show (zI M 25 36 (nI r.length)).1 25 36 = nI r.length from zI_s _ _ _ _]
  refine ev_const (v := nI 0) dM_enter_18 (by decide) ?_
  refine ev_iastN dM_enter_19 rfl (by omega) ?_
  refine ev_al dM_enter_20 rfl (by first | assumption | rfl) ?_
  refine ev_getrP dM_enter_21 fM_82 rfl (zq (q := 48) hP rfl) ?_
  refine ev_al dM_enter_24 rfl (by first | assumption | rfl) ?_
  refine ev_geti dM_enter_25 fM_191 rfl ?_
  rw [show (zI (zI M 25 36 (nI r.length)) 47 r.length (nI 0)).1 25 36 = nI r.length from (zI_o (by omega)).trans (zI_s _ _ _ _)]
  refine ev_const (v := nI 1) dM_enter_28 (by decide) ?_
  refine ev_iastN dM_enter_29 rfl (by omega) ?_
  refine ev_al dM_enter_30 rfl (by first | assumption | rfl) ?_
  refine ev_getrP dM_enter_31 fM_85 rfl (zq (q := 49) hP rfl) ?_
  refine ev_al dM_enter_34 rfl (by first | assumption | rfl) ?_
  refine ev_geti dM_enter_35 fM_191 rfl ?_
  rw [show (zI (zI (zI M 25 36 (nI r.length)) 47 r.length (nI 0)) 48 r.length (nI 1)).1 25 36 = nI r.length from (zI_o (by omega)).trans ((zI_o (by omega)).trans (zI_s _ _ _ _))]
  refine ev_const (v := nI 1) dM_enter_38 (by decide) ?_
  refine ev_iastN dM_enter_39 rfl (by omega) ?_
  refine ev_al dM_enter_40 rfl (by first | assumption | rfl) ?_
  refine ev_getrP dM_enter_41 fM_88 rfl (zq (q := 50) hP rfl) ?_
  refine ev_al dM_enter_44 rfl (by first | assumption | rfl) ?_
  refine ev_geti dM_enter_45 fM_191 rfl ?_
  rw [show (zI (zI (zI (zI M 25 36 (nI r.length)) 47 r.length (nI 0)) 48 r.length (nI 1)) 49 r.length (nI 1)).1 25 36 = nI r.length from (zI_o (by omega)).trans ((zI_o (by omega)).trans ((zI_o (by omega)).trans (zI_s _ _ _ _)))]
  refine ev_const (v := nI 0) dM_enter_48 (by decide) ?_
  refine ev_iastN dM_enter_49 rfl (by omega) ?_
  refine ev_al dM_enter_50 rfl (by first | assumption | rfl) ?_
  refine ev_getrP dM_enter_51 fM_94 rfl (zq (q := 52) hP rfl) ?_
  refine ev_al dM_enter_54 rfl (by first | assumption | rfl) ?_
  refine ev_geti dM_enter_55 fM_191 rfl ?_
  rw [show (zI (zI (zI (zI (zI M 25 36 (nI r.length)) 47 r.length (nI 0)) 48 r.length (nI 1)) 49 r.length (nI 1)) 50 r.length (nI 0)).1 25 36 = nI r.length from (zI_o (by omega)).trans ((zI_o (by omega)).trans ((zI_o (by omega)).trans ((zI_o (by omega)).trans (zI_s _ _ _ _))))]
  refine ev_il dM_enter_58 rfl (by first | assumption | rfl) ?_
  refine ev_zastN dM_enter_59 rfl (by omega) hli ?_
  refine ev_al dM_enter_60 rfl (by first | assumption | rfl) ?_
  refine ev_getrP dM_enter_61 fM_91 rfl (zq (q := 51) hP rfl) ?_
  refine ev_al dM_enter_64 rfl (by first | assumption | rfl) ?_
  refine ev_geti dM_enter_65 fM_191 rfl ?_
  rw [show (zI (zI (zI (zI (zI (zI M 25 36 (nI r.length)) 47 r.length (nI 0)) 48 r.length (nI 1)) 49 r.length (nI 1)) 50 r.length (nI 0)) 52 r.length (nI li.toNat)).1 25 36 = nI r.length from (zI_o (by omega)).trans ((zI_o (by omega)).trans ((zI_o (by omega)).trans ((zI_o (by omega)).trans ((zI_o (by omega)).trans (zI_s _ _ _ _)))))]
  refine ev_il dM_enter_68 rfl (by first | assumption | rfl) ?_
  refine ev_iastN dM_enter_69 rfl (by omega) ?_
  refine ev_vret dM_enter_70 rfl ?_
  refine ⟨rfl, (((((((zSame.rf sE M).I (by unfold sE; omega)).I (by unfold sE; omega)).I (by unfold sE; omega)).I (by unfold sE; omega)).I (by unfold sE; omega)).I (by unfold sE; omega)).I (by unfold sE; omega), hE.push hl ?_ ?_ ?_⟩
  · simp [zI_at]
  · exact ⟨by simp [zI_at], by simp [zI_at], by simp [zI_at], by simp [zI_at], by simp [zI_at], by simp [zI_at], by show 0 < 2 ^ 30; decide⟩
  · intro i hi o h1 h2
    have hir : i ≠ r.length := by omega
    have h25 : o ≠ 25 := by omega
    simp [zI_at, hir, h25]
def eLv (x : eF) (em : Bool) : Int32 := if x.2.2.2.2.2 = true then (if em = true then x.2.2.2.2.1 else nI 31 * x.2.2.2.2.1 + eTot x) else eTot x
set_option maxRecDepth 100000 in
set_option maxHeartbeats 4000000 in
theorem r_leave {em : Bool} {x : eF} {r : List eF} (hP : M.2.1 = zP0 n b) (hE : EV M (x :: r)) : Ct Lx xs (d + 1) mM_leave [.ref 25, .int (nI em.toNat)] M (fun q M' => q = some (eLv x em) ∧ zSame sE M M' ∧ EV M' r) := by
  unfold Ct
  have hl : r.length + 1 ≤ 16 := hE.2.1
  have hd : M.1 25 36 = nI r.length := hE.1
  obtain ⟨t1, t2, t3, t4, t5, t6, t7⟩ := hE.top
  refine ev_al dM_leave_0 rfl (by first | assumption | rfl) ?_
  refine ev_getrP dM_leave_1 fM_94 rfl (zq (q := 52) hP rfl) ?_
  refine ev_al dM_leave_4 rfl (by first | assumption | rfl) ?_
  refine ev_geti dM_leave_5 fM_191 rfl ?_
  rw [hd]
  refine ev_aldN dM_leave_8 rfl rfl (by omega) ?_
  rw [t6]
  refine ev_if0 (tgt := 19) dM_leave_9 (by decide) (fun h9 => ?_) (fun h9 => ?_)
  · simp only [zcond, zb0, Classical.not_not, Bool.not_eq_false, Bool.not_eq_true] at h9
    refine ev_il dM_leave_19 rfl (by first | assumption | rfl) ?_
    refine ev_if0 (tgt := 35) dM_leave_20 (by decide) (fun h20 => ?_) (fun h20 => ?_)
    · simp only [zcond, zb0, Classical.not_not, Bool.not_eq_false, Bool.not_eq_true] at h20
      refine ev_const (v := nI 31) dM_leave_35 (by decide) ?_
      refine ev_al dM_leave_37 rfl (by first | assumption | rfl) ?_
      refine ev_getrP dM_leave_38 fM_91 rfl (zq (q := 51) hP rfl) ?_
      refine ev_al dM_leave_41 rfl (by first | assumption | rfl) ?_
      refine ev_geti dM_leave_42 fM_191 rfl ?_
      rw [hd]
      refine ev_aldN dM_leave_45 rfl rfl (by omega) ?_
      rw [t5]
      refine ev_mul dM_leave_46 ?_
      refine ev_al dM_leave_47 rfl (by first | assumption | rfl) ?_
      refine ev_pV dM_leave_48 (r_total hP hE) lM_194 rec_M rfl (Nat.le_of_ble_eq_true rfl) rfl (Nat.le_of_ble_eq_true rfl) ?_
      refine ev_add dM_leave_51 ?_
      refine ev_is dM_leave_52 rfl (Nat.le_of_ble_eq_true rfl) ?_
      refine ev_al dM_leave_53 rfl (by first | assumption | rfl) ?_
      refine ev_stk dM_leave_54 rfl ?_
      refine ev_geti dM_leave_55 fM_191 rfl ?_
      rw [hd]
      refine ev_const (v := nI 1) dM_leave_58 (by decide) ?_
      refine ev_sub dM_leave_59 ?_
      rw [zd_1]
      refine ev_puti dM_leave_60 fM_191 fwM_deep rfl (vp_nar_int _) rfl ?_
      refine ev_il dM_leave_63 rfl (by first | assumption | rfl) ?_
      refine ev_ret dM_leave_64 rfl rfl ?_
      refine ⟨?_, (zSame.rf sE M).I (by unfold sE; omega), hE.pop⟩
      unfold eLv
      first
      | rw [if_neg (by rw [h9]; decide)]
      | rw [if_pos h9, if_pos h20]
      | rw [if_pos h9, if_neg (by rw [h20]; decide)]
    · simp only [zcond, zb0, Classical.not_not, Bool.not_eq_false, Bool.not_eq_true] at h20
      refine ev_al dM_leave_23 rfl (by first | assumption | rfl) ?_
      refine ev_getrP dM_leave_24 fM_91 rfl (zq (q := 51) hP rfl) ?_
      refine ev_al dM_leave_27 rfl (by first | assumption | rfl) ?_
      refine ev_geti dM_leave_28 fM_191 rfl ?_
      rw [hd]
      refine ev_aldN dM_leave_31 rfl rfl (by omega) ?_
      rw [t5]
      refine ev_goto (tgt := 52) dM_leave_32 (by decide) ?_
      refine ev_is dM_leave_52 rfl (Nat.le_of_ble_eq_true rfl) ?_
      refine ev_al dM_leave_53 rfl (by first | assumption | rfl) ?_
      refine ev_stk dM_leave_54 rfl ?_
      refine ev_geti dM_leave_55 fM_191 rfl ?_
      rw [hd]
      refine ev_const (v := nI 1) dM_leave_58 (by decide) ?_
      refine ev_sub dM_leave_59 ?_
      rw [zd_1]
      refine ev_puti dM_leave_60 fM_191 fwM_deep rfl (vp_nar_int _) rfl ?_
      refine ev_il dM_leave_63 rfl (by first | assumption | rfl) ?_
      refine ev_ret dM_leave_64 rfl rfl ?_
      refine ⟨?_, (zSame.rf sE M).I (by unfold sE; omega), hE.pop⟩
      unfold eLv
      first
      | rw [if_neg (by rw [h9]; decide)]
      | rw [if_pos h9, if_pos h20]
      | rw [if_pos h9, if_neg (by rw [h20]; decide)]
  · simp only [zcond, zb0, Classical.not_not, Bool.not_eq_false, Bool.not_eq_true] at h9
    refine ev_al dM_leave_12 rfl (by first | assumption | rfl) ?_
    refine ev_pV dM_leave_13 (r_total hP hE) lM_194 rec_M rfl (Nat.le_of_ble_eq_true rfl) rfl (Nat.le_of_ble_eq_true rfl) ?_
    refine ev_goto (tgt := 52) dM_leave_16 (by decide) ?_
    refine ev_is dM_leave_52 rfl (Nat.le_of_ble_eq_true rfl) ?_
    refine ev_al dM_leave_53 rfl (by first | assumption | rfl) ?_
    refine ev_stk dM_leave_54 rfl ?_
    refine ev_geti dM_leave_55 fM_191 rfl ?_
    rw [hd]
    refine ev_const (v := nI 1) dM_leave_58 (by decide) ?_
    refine ev_sub dM_leave_59 ?_
    rw [zd_1]
    refine ev_puti dM_leave_60 fM_191 fwM_deep rfl (vp_nar_int _) rfl ?_
    refine ev_il dM_leave_63 rfl (by first | assumption | rfl) ?_
    refine ev_ret dM_leave_64 rfl rfl ?_
    refine ⟨?_, (zSame.rf sE M).I (by unfold sE; omega), hE.pop⟩
    unfold eLv
    first
    | rw [if_neg (by rw [h9]; decide)]
    | rw [if_pos h9, if_pos h20]
    | rw [if_pos h9, if_neg (by rw [h20]; decide)]
end
