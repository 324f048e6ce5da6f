/- the reference: valueOf, findValues (rows laid by program) -/
def eGo (mk : Nat → Nat) (tv : Nat → Int32) (sl : Nat → Nat) (nv : Nat → Int32) (fr : Nat) : Nat → Nat → List eF → Bool → Option (List eF)
  | 0, _, fs, _ => some fs
  | f + 1, k, fs, nx => match fs with
    | [] => none
    | x :: r => match eStp mk tv sl nv fr k x r nx with
      | none => none
      | some y => eGo mk tv sl nv fr f (k + 1) y.1 y.2
def eFirst : eF := (nI 0, nI 1, nI 1, 0, nI 0, false)
section
variable {Lx : Nat} {xs : Nat → Int32} {d : Nat} {n b : Nat}
set_option maxRecDepth 100000 in
set_option maxHeartbeats 4000000 in
theorem r_valL {e of fr to : Nat} {t : Nat → Nat} {ts : List (Nat × Nat × Nat)} {nv : Nat → Int32} (hto : to < ts.length) {x : eF} {r : List eF} {R : Option Int32 → zM → Prop} : ∀ (f k : Nat) (fs : List eF) (nx : Bool) (M : zM) (L : Nat → Value), k + f = to → M.2.1 = zP0 n b → MTk M e t ts → EV M fs → (∀ M' k, zSame sE M M' → k < ts.length → Pu Lx xs (d + 2) mM_named [.ref 25, .int (nI of), .int (nI k)] M' (nv k)) → L 0 = .ref 25 → L 1 = .int (nI of) → L 2 = .int (nI fr) → L 3 = .int (nI to) → L 4 = .int (nI nx.toNat) → L 5 = .int (nI k) → fr < 2 ^ 31 → eGo (tMk t ts) (tTv t ts) (tSl ts) nv fr f k fs nx = some (x :: r) → (∀ M', zSame sE M M' → R (some (eTot x)) M') → Ev Lx xs (d + 3) mM_valueOf 17 L [] M (zpost mM_valueOf R) := by
  intro f
  induction f with
  | zero =>
    intro k fs nx M L hf hP hk hE hnv hL0 hL1 hL2 hL3 hL4 hL5 hfr h hR
    have he := hk.1.2.1
    have hlen := hk.2.2.1.2.1
    obtain rfl : fs = x :: r := Option.some.inj h
    refine ev_il dM_valueOf_17 rfl (by first | assumption | rfl) ?_
    refine ev_il dM_valueOf_19 rfl (by first | assumption | rfl) ?_
    refine ev_icmp (tgt := 281) dM_valueOf_20 (by decide) (fun h20 => ?_) (fun h20 => ?_)
    · try simp (disch := omega) only [zcond, nI_ltI, nI_leI, nI_eq, zb0, Classical.not_not, Bool.not_eq_false, Bool.not_eq_true, Nat.not_lt, Nat.not_le] at h20
      refine ev_al dM_valueOf_281 rfl (by first | assumption | rfl) ?_
      refine ev_pV dM_valueOf_282 (r_total hP hE) lM_194 rec_M rfl (Nat.le_of_ble_eq_true rfl) rfl (Nat.le_of_ble_eq_true rfl) ?_
      refine ev_ret dM_valueOf_285 rfl rfl ?_
      exact hR M (zSame.rf _ _)
    · first | omega | (simp (disch := omega) only [zcond, nI_ltI, nI_leI, nI_eq] at h20; omega)
  | succ f ih =>
    intro k fs nx M L hf hP hk hE hnv hL0 hL1 hL2 hL3 hL4 hL5 hfr h hR
    have he := hk.1.2.1
    have hlen := hk.2.2.1.2.1
    refine ev_il dM_valueOf_17 rfl (by first | assumption | rfl) ?_
    refine ev_il dM_valueOf_19 rfl (by first | assumption | rfl) ?_
    refine ev_icmp (tgt := 281) dM_valueOf_20 (by decide) (fun h20 => ?_) (fun h20 => ?_)
    · first | omega | (simp (disch := omega) only [zcond, nI_ltI, nI_leI, nI_eq] at h20; omega)
    · try simp (disch := omega) only [zcond, nI_ltI, nI_leI, nI_eq, zb0, Classical.not_not, Bool.not_eq_false, Bool.not_eq_true, Nat.not_lt, Nat.not_le] at h20
      cases fs with
      | nil => simp [eGo] at h
      | cons u r' =>
        cases hst : eStp (tMk t ts) (tTv t ts) (tSl ts) nv fr k u r' nx with
        | none => simp [eGo, hst] at h
        | some y =>
          simp only [eGo, hst] at h
          refine r_v23 (x := u) (r := r') (y := y) hP hk (by omega) hto hE hL0 hL1 hL2 hL3 hL5 (hnv M k (zSame.rf _ _) (by omega)) hL4 hst (by omega) ?_
          intro M' L' hs hE' a0 a1 a2 a3 a4 a5
          exact ih (k + 1) y.1 y.2 M' L' (by omega) (by rw [hs.1]; exact hP) (mtkE hs hk) hE' (fun M2 k2 hs2 => hnv M2 k2 (hs.tr hs2)) a0 a1 a2 a3 a4 a5 hfr h (fun M2 hs2 => hR M2 (hs.tr hs2))
set_option maxRecDepth 100000 in
set_option maxHeartbeats 4000000 in
theorem r_valueOf {M : zM} {x : eF} {r : List eF} {e of fr to : Nat} {t : Nat → Nat} {ts : List (Nat × Nat × Nat)} {nv : Nat → Int32} (hto : to < ts.length) (hP : M.2.1 = zP0 n b) (hk : MTk M e t ts) (hft : fr ≤ to) (hnv : ∀ M' k, zSame sE M M' → k < ts.length → Pu Lx xs (d + 2) mM_named [.ref 25, .int (nI of), .int (nI k)] M' (nv k)) (h : eGo (tMk t ts) (tTv t ts) (tSl ts) nv fr (to - fr) fr [eFirst] true = some (x :: r)) : Ct Lx xs (d + 3) mM_valueOf [.ref 25, .int (nI of), .int (nI fr), .int (nI to)] M (fun q M' => q = some (eTot x) ∧ zSame sE M M') := by
  unfold Ct
  have he := hk.1.2.1
  have hlen := hk.2.2.1.2.1
  refine ev_al dM_valueOf_0 rfl (by first | assumption | rfl) ?_
  refine ev_const (v := -1) dM_valueOf_1 (by decide) ?_
  refine ev_puti dM_valueOf_2 fM_191 fwM_deep rfl (vp_nar_int _) rfl ?_
  refine ev_al dM_valueOf_5 rfl (by first | assumption | rfl) ?_
  refine ev_const (v := nI 0) dM_valueOf_6 (by decide) ?_
  refine ev_const (v := nI 0) dM_valueOf_7 (by decide) ?_
  have hs0 : zSame sE M (zI M 25 36 (-1)) := (zSame.rf sE M).I (by unfold sE; omega)
  have hE0 : EV (zI M 25 36 (-1)) [] := ⟨zI_s _ _ _ _, by simp, fun i hi => by simp at hi⟩
  refine ev_cV dM_valueOf_8 (r_enter (M := zI M 25 36 (-1)) (r := []) (li := false) (le := nI 0) hP hE0 (by decide)) lM_200 rec_M rfl (Nat.le_of_ble_eq_true rfl) rfl (Nat.le_of_ble_eq_true rfl) (fun z M2 hz => ?_)
  obtain ⟨rfl, hs2, hE2⟩ := hz
  have hs := hs0.tr hs2
  refine ev_const (v := nI 1) dM_valueOf_11 (by decide) ?_
  refine ev_is dM_valueOf_12 rfl (Nat.le_of_ble_eq_true rfl) ?_
  refine ev_il dM_valueOf_14 rfl (by first | assumption | rfl) ?_
  refine ev_is dM_valueOf_15 rfl (Nat.le_of_ble_eq_true rfl) ?_
  exact r_valL hto (to - fr) fr [eFirst] true M2 _ (by omega) (by rw [hs.1]; exact hP) (mtkE hs hk) hE2 (fun M3 k3 hs3 => hnv M3 k3 (hs.tr hs3)) rfl rfl rfl rfl rfl rfl (by omega) h (fun M3 hs3 => ⟨rfl, hs.tr hs3⟩)
/-- an item's value, the values of the items before it being va -/
def fVal (t : Nat → Nat) (ts : List (Nat × Nat × Nat)) (F La Lv : Nat → Int32) (C : Nat) (fi la : Nat → Nat) (br df : Nat → Bool) (va : Nat → Int32) (k : Nat) : Int32 :=
  if br k = true then nI (mCnt F La Lv k (C - (k + 1)) (k + 1) 0)
  else match eGo (tMk t ts) (tTv t ts) (tSl ts) (fun nm => mNam df (mSm t ts) fi va nm k 0 (nI 0)) (if df k = true then fi k + 2 else fi k) (la k - (if df k = true then fi k + 2 else fi k)) (if df k = true then fi k + 2 else fi k) [eFirst] true with
    | some (x :: _) => eTot x
    | _ => nI 0
def fAll (v : (Nat → Int32) → Nat → Int32) (va : Nat → Int32) : Nat → (Nat → Int32)
  | 0 => va
  | k + 1 => upd (fAll v va k) k (v (fAll v va k) k)
def sFv : Nat → Nat → Prop := fun o i => sE o i ∨ o = 41
theorem fVal_br {t : Nat → Nat} {ts : List (Nat × Nat × Nat)} {F La Lv : Nat → Int32} {C : Nat} {fi la : Nat → Nat} {br df : Nat → Bool} {va : Nat → Int32} {k : Nat} (h : br k = true) : fVal t ts F La Lv C fi la br df va k = nI (mCnt F La Lv k (C - (k + 1)) (k + 1) 0) := if_pos h
theorem fVal_go {t : Nat → Nat} {ts : List (Nat × Nat × Nat)} {F La Lv : Nat → Int32} {C : Nat} {fi la : Nat → Nat} {br df : Nat → Bool} {va : Nat → Int32} {k : Nat} {x : eF} {r : List eF} (h : br k = false) (hgo : eGo (tMk t ts) (tTv t ts) (tSl ts) (fun nm => mNam df (mSm t ts) fi va nm k 0 (nI 0)) (if df k = true then fi k + 2 else fi k) (la k - (if df k = true then fi k + 2 else fi k)) (if df k = true then fi k + 2 else fi k) [eFirst] true = some (x :: r)) : fVal t ts F La Lv C fi la br df va k = eTot x := by
  unfold fVal
  rw [if_neg (by rw [h]; decide), hgo]
theorem mtk41 {M : zM} {e : Nat} {t : Nat → Nat} {ts : List (Nat × Nat × Nat)} {k : Nat} {x : Int32} (hk : MTk M e t ts) : MTk (zI M 41 k x) e t ts := by
  obtain ⟨hT, hk, ho, hs⟩ := hk
  exact ⟨⟨(zI_o (by omega)).trans hT.1, hT.2.1, fun i hi => ⟨(zI_o (by omega)).trans (hT.2.2 i hi).1, (hT.2.2 i hi).2⟩⟩, ⟨(zI_o (by omega)).trans hk.1, fun k q hq => ⟨(zI_o (by omega)).trans (hk.2 k q hq).1, (zI_o (by omega)).trans (hk.2 k q hq).2.1, (zI_o (by omega)).trans (hk.2 k q hq).2.2⟩⟩, ho, hs⟩
set_option maxRecDepth 100000 in
set_option maxHeartbeats 4000000 in
theorem r_fvL {M0 : zM} {e C : Nat} {t : Nat → Nat} {ts : List (Nat × Nat × Nat)} {fi la : Nat → Nat} {br df : Nat → Bool} (hC : M0.1 25 14 = nI C) (hC2 : C ≤ 160) (hf1 : ∀ k, k < C → M0.1 35 k = nI (fi k)) (hf5 : ∀ k, k < C → M0.1 36 k = nI (la k)) (hf2 : ∀ k, k < C → M0.1 38 k = nI (br k).toNat) (hf3 : ∀ k, k < C → M0.1 39 k = nI (df k).toNat) (hf4 : ∀ k, k < C → fi k ≤ la k ∧ la k < ts.length) (hfl : ∀ k, k < C → br k = false → (if df k = true then fi k + 2 else fi k) ≤ la k) (hok : ∀ k, k < C → br k = false → ∀ va, va = fAll (fVal t ts (M0.1 35) (M0.1 36) (M0.1 37) C fi la br df) (M0.1 41) k → ∃ x r, eGo (tMk t ts) (tTv t ts) (tSl ts) (fun nm => mNam df (mSm t ts) fi va nm k 0 (nI 0)) (if df k = true then fi k + 2 else fi k) (la k - (if df k = true then fi k + 2 else fi k)) (if df k = true then fi k + 2 else fi k) [eFirst] true = some (x :: r)) {R : Option Int32 → zM → Prop} (hR : ∀ M', zSame sFv M0 M' → M'.1 41 = fAll (fVal t ts (M0.1 35) (M0.1 36) (M0.1 37) C fi la br df) (M0.1 41) C → R none M') : ∀ (f k : Nat) (M : zM) (L : Nat → Value), k + f = C → M.2.1 = zP0 n b → MTk M e t ts → zSame sFv M0 M → M.1 41 = fAll (fVal t ts (M0.1 35) (M0.1 36) (M0.1 37) C fi la br df) (M0.1 41) k → L 0 = .ref 25 → L 1 = .int (nI k) → Ev Lx xs (d + 4) mM_findValues 2 L [] M (zpost mM_findValues R) := by
  intro f
  induction f with
  | zero =>
    intro k M L hf hP hkk hs hva hL0 hL1
    refine ev_il dM_findValues_2 rfl (by first | assumption | rfl) ?_
    refine ev_al dM_findValues_3 rfl (by first | assumption | rfl) ?_
    refine ev_geti dM_findValues_4 fM_146 rfl ?_
    rw [(hs.2 _ _ (by unfold sFv sE; omega)).trans hC]
    refine ev_icmp (tgt := 82) dM_findValues_7 (by decide) (fun h7 => ?_) (fun h7 => ?_)
    · try simp (disch := omega) only [zcond, nI_ltI, nI_leI, nI_eq, zb0, Classical.not_not, Bool.not_eq_false, Bool.not_eq_true, Nat.not_lt, Nat.not_le] at h7
      refine ev_vret dM_findValues_82 rfl ?_
      obtain rfl : k = C := by omega
      exact hR M hs hva
    · first | omega | (simp (disch := omega) only [zcond, nI_ltI, nI_leI, nI_eq] at h7; omega)
  | succ f ih =>
    intro k M L hf hP hkk hs hva hL0 hL1
    have he := hkk.1.2.1
    have hlen := hkk.2.2.1.2.1
    have hfk := hf4 k (by omega)
    have h35 : M.1 35 = M0.1 35 := funext fun i => hs.2 _ _ (by unfold sFv sE; omega)
    have h36 : M.1 36 = M0.1 36 := funext fun i => hs.2 _ _ (by unfold sFv sE; omega)
    have h37 : M.1 37 = M0.1 37 := funext fun i => hs.2 _ _ (by unfold sFv sE; omega)
    refine ev_il dM_findValues_2 rfl (by first | assumption | rfl) ?_
    refine ev_al dM_findValues_3 rfl (by first | assumption | rfl) ?_
    refine ev_geti dM_findValues_4 fM_146 rfl ?_
    rw [(hs.2 _ _ (by unfold sFv sE; omega)).trans hC]
    refine ev_icmp (tgt := 82) dM_findValues_7 (by decide) (fun h7 => ?_) (fun h7 => ?_)
    · first | omega | (simp (disch := omega) only [zcond, nI_ltI, nI_leI, nI_eq] at h7; omega)
    · try simp (disch := omega) only [zcond, nI_ltI, nI_leI, nI_eq, zb0, Classical.not_not, Bool.not_eq_false, Bool.not_eq_true, Nat.not_lt, Nat.not_le] at h7
      refine ev_al dM_findValues_10 rfl (by first | assumption | rfl) ?_
      refine ev_getrP dM_findValues_11 fM_47 rfl (zq (q := 38) hP rfl) ?_
      refine ev_il dM_findValues_14 rfl (by first | assumption | rfl) ?_
      refine ev_aldN dM_findValues_15 rfl rfl (by omega) ?_
      rw [(hs.2 _ _ (by unfold sFv sE; omega)).trans (hf2 k (by omega))]
      refine ev_if0 (tgt := 33) dM_findValues_16 (by decide) (fun h16 => ?_) (fun h16 => ?_)
      · simp only [zcond, zb0, Classical.not_not, Bool.not_eq_false, Bool.not_eq_true] at h16
        refine ev_al dM_findValues_33 rfl (by first | assumption | rfl) ?_
        refine ev_getrP dM_findValues_34 fM_57 rfl (zq (q := 41) hP rfl) ?_
        refine ev_il dM_findValues_37 rfl (by first | assumption | rfl) ?_
        refine ev_al dM_findValues_38 rfl (by first | assumption | rfl) ?_
        refine ev_il dM_findValues_39 rfl (by first | assumption | rfl) ?_
        refine ev_al dM_findValues_40 rfl (by first | assumption | rfl) ?_
        refine ev_getrP dM_findValues_41 fM_51 rfl (zq (q := 39) hP rfl) ?_
        refine ev_il dM_findValues_44 rfl (by first | assumption | rfl) ?_
        refine ev_aldN dM_findValues_45 rfl rfl (by omega) ?_
        rw [(hs.2 _ _ (by unfold sFv sE; omega)).trans (hf3 k (by omega))]
        refine ev_if0 (tgt := 60) dM_findValues_46 (by decide) (fun h46 => ?_) (fun h46 => ?_)
        · simp only [zcond, zb0, Classical.not_not, Bool.not_eq_false, Bool.not_eq_true] at h46
          refine ev_al dM_findValues_60 rfl (by first | assumption | rfl) ?_
          refine ev_getrP dM_findValues_61 fM_38 rfl (zq (q := 35) hP rfl) ?_
          refine ev_il dM_findValues_64 rfl (by first | assumption | rfl) ?_
          refine ev_aldN dM_findValues_65 rfl rfl (by omega) ?_
          try rw [(hs.2 _ _ (by unfold sFv sE; omega)).trans (hf1 k (by omega))]
          refine ev_al dM_findValues_66 rfl (by first | assumption | rfl) ?_
          refine ev_getrP dM_findValues_67 fM_41 rfl (zq (q := 36) hP rfl) ?_
          refine ev_il dM_findValues_70 rfl (by first | assumption | rfl) ?_
          refine ev_aldN dM_findValues_71 rfl rfl (by omega) ?_
          rw [(hs.2 _ _ (by unfold sFv sE; omega)).trans (hf5 k (by omega))]
          first | rw [show fi k + 2 = (if df k = true then fi k + 2 else fi k) from (if_pos h46).symm] | rw [show nI (fi k) = nI (if df k = true then fi k + 2 else fi k) by rw [if_neg (by rw [h46]; decide)]]
          obtain ⟨u, r', hgo⟩ := hok k (by omega) h16 (fAll (fVal t ts (M0.1 35) (M0.1 36) (M0.1 37) C fi la br df) (M0.1 41) k) rfl
          refine ev_cV dM_findValues_72 (r_valueOf (x := u) (r := r') (nv := fun nm => mNam df (mSm t ts) fi (fAll (fVal t ts (M0.1 35) (M0.1 36) (M0.1 37) C fi la br df) (M0.1 41) k) nm k 0 (nI 0)) (hf4 k (by omega)).2 hP hkk (hfl k (by omega) h16) (fun M' nm hs' hnm => ?_) hgo) lM_225 rec_M rfl (Nat.le_of_ble_eq_true rfl) rfl (Nat.le_of_ble_eq_true rfl) (fun z M2 hz => ?_)
          · rw [← hva]
            have h41 : M'.1 41 = M.1 41 := funext fun i => hs'.2 _ _ (by unfold sE; omega)
            rw [← h41]
            exact r_named (by rw [hs'.1]; exact hP) (mtkE hs' hkk) hnm (by omega) (fun j hj => ⟨(hs'.2 _ _ (by unfold sE; omega)).trans ((hs.2 _ _ (by unfold sFv sE; omega)).trans (hf1 j (by omega))), by have := hf4 j (by omega); omega, (hs'.2 _ _ (by unfold sE; omega)).trans ((hs.2 _ _ (by unfold sFv sE; omega)).trans (hf3 j (by omega)))⟩)
          obtain ⟨rfl, hs2⟩ := hz
          refine ev_iastN dM_findValues_75 rfl (by omega) ?_
          first
          | refine ev_mem (M' := zI M 41 k ((fVal t ts (M0.1 35) (M0.1 36) (M0.1 37) C fi la br df) (fAll (fVal t ts (M0.1 35) (M0.1 36) (M0.1 37) C fi la br df) (M0.1 41) k) k)) (by rw [fVal_br h16, h35, h36, h37]) ?_
          | refine ev_mem (M' := zI M2 41 k ((fVal t ts (M0.1 35) (M0.1 36) (M0.1 37) C fi la br df) (fAll (fVal t ts (M0.1 35) (M0.1 36) (M0.1 37) C fi la br df) (M0.1 41) k) k)) (by rw [fVal_go h16 hgo]) ?_
          refine ev_inc1 dM_findValues_76 (by first | assumption | rfl) ?_
          refine ev_goto (tgt := 2) dM_findValues_79 (by decide) ?_
          first
          | (refine ih (k + 1) (zI M 41 k ((fVal t ts (M0.1 35) (M0.1 36) (M0.1 37) C fi la br df) (fAll (fVal t ts (M0.1 35) (M0.1 36) (M0.1 37) C fi la br df) (M0.1 41) k) k)) _ (by omega) hP ?_ ?_ ?_ (by first | assumption | rfl) rfl
             · exact mtk41 hkk
             · exact hs.I (Or.inr rfl)
             · rw [zI_fn, hva]; rfl)
          | (refine ih (k + 1) (zI M2 41 k ((fVal t ts (M0.1 35) (M0.1 36) (M0.1 37) C fi la br df) (fAll (fVal t ts (M0.1 35) (M0.1 36) (M0.1 37) C fi la br df) (M0.1 41) k) k)) _ (by omega) (by show M2.2.1 = _; rw [hs2.1]; exact hP) ?_ ?_ ?_ (by first | assumption | rfl) rfl
             · exact mtk41 (mtkE hs2 hkk)
             · exact (hs.tr (hs2.weak (fun o i h => Or.inl h))).I (Or.inr rfl)
             · rw [zI_fn, show M2.1 41 = M.1 41 from funext fun i => hs2.2 _ _ (by unfold sE; omega), hva]; rfl)
        · simp only [zcond, zb0, Classical.not_not, Bool.not_eq_false, Bool.not_eq_true] at h46
          refine ev_al dM_findValues_49 rfl (by first | assumption | rfl) ?_
          refine ev_getrP dM_findValues_50 fM_38 rfl (zq (q := 35) hP rfl) ?_
          refine ev_il dM_findValues_53 rfl (by first | assumption | rfl) ?_
          refine ev_aldN dM_findValues_54 rfl rfl (by omega) ?_
          rw [(hs.2 _ _ (by unfold sFv sE; omega)).trans (hf1 k (by omega))]
          refine ev_const (v := nI 2) dM_findValues_55 (by decide) ?_
          first | with_reducible refine ev_addN dM_findValues_56 ?_ | refine ev_add dM_findValues_56 ?_
          refine ev_goto (tgt := 66) dM_findValues_57 (by decide) ?_
          try rw [(hs.2 _ _ (by unfold sFv sE; omega)).trans (hf1 k (by omega))]
          refine ev_al dM_findValues_66 rfl (by first | assumption | rfl) ?_
          refine ev_getrP dM_findValues_67 fM_41 rfl (zq (q := 36) hP rfl) ?_
          refine ev_il dM_findValues_70 rfl (by first | assumption | rfl) ?_
          refine ev_aldN dM_findValues_71 rfl rfl (by omega) ?_
          rw [(hs.2 _ _ (by unfold sFv sE; omega)).trans (hf5 k (by omega))]
          first | rw [show fi k + 2 = (if df k = true then fi k + 2 else fi k) from (if_pos h46).symm] | rw [show nI (fi k) = nI (if df k = true then fi k + 2 else fi k) by rw [if_neg (by rw [h46]; decide)]]
          obtain ⟨u, r', hgo⟩ := hok k (by omega) h16 (fAll (fVal t ts (M0.1 35) (M0.1 36) (M0.1 37) C fi la br df) (M0.1 41) k) rfl
          refine ev_cV dM_findValues_72 (r_valueOf (x := u) (r := r') (nv := fun nm => mNam df (mSm t ts) fi (fAll (fVal t ts (M0.1 35) (M0.1 36) (M0.1 37) C fi la br df) (M0.1 41) k) nm k 0 (nI 0)) (hf4 k (by omega)).2 hP hkk (hfl k (by omega) h16) (fun M' nm hs' hnm => ?_) hgo) lM_225 rec_M rfl (Nat.le_of_ble_eq_true rfl) rfl (Nat.le_of_ble_eq_true rfl) (fun z M2 hz => ?_)
          · rw [← hva]
            have h41 : M'.1 41 = M.1 41 := funext fun i => hs'.2 _ _ (by unfold sE; omega)
            rw [← h41]
            exact r_named (by rw [hs'.1]; exact hP) (mtkE hs' hkk) hnm (by omega) (fun j hj => ⟨(hs'.2 _ _ (by unfold sE; omega)).trans ((hs.2 _ _ (by unfold sFv sE; omega)).trans (hf1 j (by omega))), by have := hf4 j (by omega); omega, (hs'.2 _ _ (by unfold sE; omega)).trans ((hs.2 _ _ (by unfold sFv sE; omega)).trans (hf3 j (by omega)))⟩)
          obtain ⟨rfl, hs2⟩ := hz
          refine ev_iastN dM_findValues_75 rfl (by omega) ?_
          first
          | refine ev_mem (M' := zI M 41 k ((fVal t ts (M0.1 35) (M0.1 36) (M0.1 37) C fi la br df) (fAll (fVal t ts (M0.1 35) (M0.1 36) (M0.1 37) C fi la br df) (M0.1 41) k) k)) (by rw [fVal_br h16, h35, h36, h37]) ?_
          | refine ev_mem (M' := zI M2 41 k ((fVal t ts (M0.1 35) (M0.1 36) (M0.1 37) C fi la br df) (fAll (fVal t ts (M0.1 35) (M0.1 36) (M0.1 37) C fi la br df) (M0.1 41) k) k)) (by rw [fVal_go h16 hgo]) ?_
          refine ev_inc1 dM_findValues_76 (by first | assumption | rfl) ?_
          refine ev_goto (tgt := 2) dM_findValues_79 (by decide) ?_
          first
          | (refine ih (k + 1) (zI M 41 k ((fVal t ts (M0.1 35) (M0.1 36) (M0.1 37) C fi la br df) (fAll (fVal t ts (M0.1 35) (M0.1 36) (M0.1 37) C fi la br df) (M0.1 41) k) k)) _ (by omega) hP ?_ ?_ ?_ (by first | assumption | rfl) rfl
             · exact mtk41 hkk
             · exact hs.I (Or.inr rfl)
             · rw [zI_fn, hva]; rfl)
          | (refine ih (k + 1) (zI M2 41 k ((fVal t ts (M0.1 35) (M0.1 36) (M0.1 37) C fi la br df) (fAll (fVal t ts (M0.1 35) (M0.1 36) (M0.1 37) C fi la br df) (M0.1 41) k) k)) _ (by omega) (by show M2.2.1 = _; rw [hs2.1]; exact hP) ?_ ?_ ?_ (by first | assumption | rfl) rfl
             · exact mtk41 (mtkE hs2 hkk)
             · exact (hs.tr (hs2.weak (fun o i h => Or.inl h))).I (Or.inr rfl)
             · rw [zI_fn, show M2.1 41 = M.1 41 from funext fun i => hs2.2 _ _ (by unfold sE; omega), hva]; rfl)
      · simp only [zcond, zb0, Classical.not_not, Bool.not_eq_false, Bool.not_eq_true] at h16
        refine ev_al dM_findValues_19 rfl (by first | assumption | rfl) ?_
        refine ev_getrP dM_findValues_20 fM_57 rfl (zq (q := 41) hP rfl) ?_
        refine ev_il dM_findValues_23 rfl (by first | assumption | rfl) ?_
        refine ev_al dM_findValues_24 rfl (by first | assumption | rfl) ?_
        refine ev_il dM_findValues_25 rfl (by first | assumption | rfl) ?_
        refine ev_pV dM_findValues_26 (r_countInside hP (show k < C by omega) ((hs.2 _ _ (by unfold sFv sE; omega)).trans hC) hC2) lM_222 rec_M rfl (Nat.le_of_ble_eq_true rfl) rfl (Nat.le_of_ble_eq_true rfl) ?_
        refine ev_iastN dM_findValues_29 rfl (by omega) ?_
        refine ev_goto (tgt := 76) dM_findValues_30 (by decide) ?_
        first
        | refine ev_mem (M' := zI M 41 k ((fVal t ts (M0.1 35) (M0.1 36) (M0.1 37) C fi la br df) (fAll (fVal t ts (M0.1 35) (M0.1 36) (M0.1 37) C fi la br df) (M0.1 41) k) k)) (by rw [fVal_br h16, h35, h36, h37]) ?_
        | refine ev_mem (M' := zI M2 41 k ((fVal t ts (M0.1 35) (M0.1 36) (M0.1 37) C fi la br df) (fAll (fVal t ts (M0.1 35) (M0.1 36) (M0.1 37) C fi la br df) (M0.1 41) k) k)) (by rw [fVal_go h16 hgo]) ?_
        refine ev_inc1 dM_findValues_76 (by first | assumption | rfl) ?_
        refine ev_goto (tgt := 2) dM_findValues_79 (by decide) ?_
        first
        | (refine ih (k + 1) (zI M 41 k ((fVal t ts (M0.1 35) (M0.1 36) (M0.1 37) C fi la br df) (fAll (fVal t ts (M0.1 35) (M0.1 36) (M0.1 37) C fi la br df) (M0.1 41) k) k)) _ (by omega) hP ?_ ?_ ?_ (by first | assumption | rfl) rfl
           · exact mtk41 hkk
           · exact hs.I (Or.inr rfl)
           · rw [zI_fn, hva]; rfl)
        | (refine ih (k + 1) (zI M2 41 k ((fVal t ts (M0.1 35) (M0.1 36) (M0.1 37) C fi la br df) (fAll (fVal t ts (M0.1 35) (M0.1 36) (M0.1 37) C fi la br df) (M0.1 41) k) k)) _ (by omega) (by show M2.2.1 = _; rw [hs2.1]; exact hP) ?_ ?_ ?_ (by first | assumption | rfl) rfl
           · exact mtk41 (mtkE hs2 hkk)
           · exact (hs.tr (hs2.weak (fun o i h => Or.inl h))).I (Or.inr rfl)
           · rw [zI_fn, show M2.1 41 = M.1 41 from funext fun i => hs2.2 _ _ (by unfold sE; omega), hva]; rfl)
set_option maxRecDepth 100000 in
set_option maxHeartbeats 4000000 in
theorem r_findValues {M0 : zM} {e C : Nat} {t : Nat → Nat} {ts : List (Nat × Nat × Nat)} (hP : M0.2.1 = zP0 n b) (hkk : MTk M0 e t ts) {fi la : Nat → Nat} {br df : Nat → Bool} (hC : M0.1 25 14 = nI C) (hC2 : C ≤ 160) (hf1 : ∀ k, k < C → M0.1 35 k = nI (fi k)) (hf5 : ∀ k, k < C → M0.1 36 k = nI (la k)) (hf2 : ∀ k, k < C → M0.1 38 k = nI (br k).toNat) (hf3 : ∀ k, k < C → M0.1 39 k = nI (df k).toNat) (hf4 : ∀ k, k < C → fi k ≤ la k ∧ la k < ts.length) (hfl : ∀ k, k < C → br k = false → (if df k = true then fi k + 2 else fi k) ≤ la k) (hok : ∀ k, k < C → br k = false → ∀ va, va = fAll (fVal t ts (M0.1 35) (M0.1 36) (M0.1 37) C fi la br df) (M0.1 41) k → ∃ x r, eGo (tMk t ts) (tTv t ts) (tSl ts) (fun nm => mNam df (mSm t ts) fi va nm k 0 (nI 0)) (if df k = true then fi k + 2 else fi k) (la k - (if df k = true then fi k + 2 else fi k)) (if df k = true then fi k + 2 else fi k) [eFirst] true = some (x :: r)) : Ct Lx xs (d + 4) mM_findValues [.ref 25] M0 (fun q M' => q = none ∧ zSame sFv M0 M' ∧ M'.1 41 = fAll (fVal t ts (M0.1 35) (M0.1 36) (M0.1 37) C fi la br df) (M0.1 41) C) := by
  unfold Ct
  refine ev_const (v := nI 0) dM_findValues_0 (by decide) ?_
  refine ev_is dM_findValues_1 rfl (Nat.le_of_ble_eq_true rfl) ?_
  exact r_fvL (e := e) hC hC2 hf1 hf5 hf2 hf3 hf4 hfl hok (fun M' hs h => ⟨rfl, hs, h⟩) C 0 M0 _ (by omega) hP hkk (zSame.rf _ _) rfl rfl rfl
end
