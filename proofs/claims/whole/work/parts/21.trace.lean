/- KeptItems: traceTokens (rows laid by program) -/
/-- what a token must be after the edit in order to stay, packed -/
def dueV (p g w v : Nat) : Option Nat := if v / 2048 + v % 2048 / 8 ≤ p then some v else if p + g ≤ v / 2048 then some (v + w * 2048 - g * 2048) else none
def oV : Option Nat → Int32
  | none => -1
  | some i => nI i
theorem dueV_i {p g w v : Nat} : (if v / 2048 + v % 2048 / 8 ≤ p then nI v else if p + g ≤ v / 2048 then nI v + (nI w - nI g) * nI 2048 else -1) = oV (dueV p g w v) := by
  unfold dueV
  split
  · rfl
  · split
    · rename_i h1 h2
      show nI v + (nI w - nI g) * nI 2048 = nI (v + w * 2048 - g * 2048)
      have e1 : nI (v + w * 2048 - g * 2048) + nI g * nI 2048 = nI v + nI w * nI 2048 := by
        rw [nI_mul, nI_mul, nI_add, nI_add]; congr 1; omega
      have e2 : nI (v + w * 2048 - g * 2048) = nI v + nI w * nI 2048 - nI g * nI 2048 := by rw [← e1]; exact (Int32.add_sub_cancel _ _).symm
      rw [e2, Int32.sub_mul]
      simp only [Int32.sub_eq_add_neg, Int32.add_assoc]
    · rfl
/-- which old token stayed as the new token k; how many of the first i stayed -/
def oO (p g w : Nat) (V0 V1 : Nat → Nat) (k : Nat) : Nat → Option Nat
  | 0 => none
  | i + 1 => if dueV p g w (V0 i) = some (V1 k) then some i else oO p g w V0 V1 k i
def oSt (p g w : Nat) (V0 V1 : Nat → Nat) (n1 i : Nat) : Bool := (List.range n1).any (fun k => decide (dueV p g w (V0 i) = some (V1 k)))
def oC (p g w : Nat) (V0 V1 : Nat → Nat) (n1 : Nat) : Nat → Nat
  | 0 => 0
  | i + 1 => oC p g w V0 V1 n1 i + (oSt p g w V0 V1 n1 i).toNat
theorem oC_le (p g w : Nat) (V0 V1 : Nat → Nat) (n1 : Nat) : ∀ i, oC p g w V0 V1 n1 i ≤ i
  | 0 => Nat.le_refl 0
  | i + 1 => by
    have := oC_le p g w V0 V1 n1 i
    have := (oSt p g w V0 V1 n1 i).toNat_le
    unfold oC; omega
theorem oSt_t {p g w : Nat} {V0 V1 : Nat → Nat} {n1 i k : Nat} (hk : k < n1) (h : dueV p g w (V0 i) = some (V1 k)) : oSt p g w V0 V1 n1 i = true :=
  List.any_eq_true.mpr ⟨k, List.mem_range.mpr hk, decide_eq_true h⟩
theorem oSt_f {p g w : Nat} {V0 V1 : Nat → Nat} {n1 i : Nat} (h : ∀ k, k < n1 → ¬ dueV p g w (V0 i) = some (V1 k)) : oSt p g w V0 V1 n1 i = false :=
  List.any_eq_false.mpr (fun k hk => by simpa using h k (List.mem_range.mp hk))
/-- tokens of a reading, packed -/
def Pkd (M : zM) (r nT : Nat) (V : Nat → Nat) : Prop := M.1 (r + 1) 4 = nI nT ∧ nT ≤ 160 ∧ (∀ k, k < nT → M.1 (r + 4) k = nI (V k) ∧ V k < 2 ^ 24) ∧ ∀ k j, k < j → j < nT → V k < V j
section
variable {Lx : Nat} {xs : Nat → Int32} {d : Nat} {n b : Nat}
set_option maxRecDepth 100000 in
set_option maxHeartbeats 4000000 in
theorem l_traceIn {M : zM} {n1 : Nat} {V1 : Nat → Nat} {du : Int32} {st i p g : Int32} (hP : M.2.1 = zP0 n b) (hn : zR n) (hV1 : Pkd M n n1 V1) {Q : zQ} : ∀ (f k : Nat) (L : Nat → Value), k + f = n1 → L 0 = .ref 0 → L 3 = .ref (n + 1) → L 4 = .int st → L 5 = .int (nI k) → L 6 = .int i → L 7 = .int du → L 1 = .int p → L 2 = .int g → (∀ k', k ≤ k' → k' ≤ n1 → (∀ j, k ≤ j → j < k' → nI (V1 j) < du) → (k' < n1 → du ≤ nI (V1 k')) → ∀ L' : Nat → Value, L' 0 = .ref 0 → L' 3 = .ref (n + 1) → L' 4 = .int st → L' 6 = .int i → L' 7 = .int du → L' 5 = .int (nI k') → L' 1 = .int p → L' 2 = .int g → Ev Lx xs d mK_traceTokens 87 L' [] M Q) → Ev Lx xs d mK_traceTokens 60 L [] M Q := by
  have hn160 := hV1.2.1
  intro f
  induction f with
  | zero =>
    intro k L hf hL0 hL3 hL4 hL5 hL6 hL7 hLp hLg hR
    refine ev_il dK_traceTokens_60 rfl (by first | assumption | rfl) ?_
    refine ev_al dK_traceTokens_62 rfl (by first | assumption | rfl) ?_
    refine ev_geti dK_traceTokens_63 fK_63 (sh_S hn) ?_
    rw [hV1.1]
    refine ev_icmp (tgt := 87) dK_traceTokens_66 (by decide) (fun h66 => ?_) (fun h66 => ?_)
    · try simp (disch := omega) only [zcond, nI_ltI, nI_leI, nI_eq, zb0, Classical.not_not, Bool.not_eq_false, Bool.not_eq_true, Nat.not_lt, Nat.not_le] at h66
      exact hR k (Nat.le_refl _) (by omega) (fun j h1 h2 => absurd h1 (by omega)) (fun h => absurd h (by omega)) L hL0 hL3 hL4 hL6 hL7 hL5 hLp hLg
    · first | omega | (simp (disch := omega) only [zcond, nI_ltI, nI_leI, nI_eq] at h66; omega)
  | succ f ih =>
    intro k L hf hL0 hL3 hL4 hL5 hL6 hL7 hLp hLg hR
    refine ev_il dK_traceTokens_60 rfl (by first | assumption | rfl) ?_
    refine ev_al dK_traceTokens_62 rfl (by first | assumption | rfl) ?_
    refine ev_geti dK_traceTokens_63 fK_63 (sh_S hn) ?_
    rw [hV1.1]
    refine ev_icmp (tgt := 87) dK_traceTokens_66 (by decide) (fun h66 => ?_) (fun h66 => ?_)
    · try simp (disch := omega) only [zcond, nI_ltI, nI_leI, nI_eq, zb0, Classical.not_not, Bool.not_eq_false, Bool.not_eq_true, Nat.not_lt, Nat.not_le] at h66
      exact hR k (Nat.le_refl _) (by omega) (fun j h1 h2 => absurd h1 (by omega)) (fun hlt => by first | exact h78 | omega) L hL0 hL3 hL4 hL6 hL7 hL5 hLp hLg
    · try simp (disch := omega) only [zcond, nI_ltI, nI_leI, nI_eq, zb0, Classical.not_not, Bool.not_eq_false, Bool.not_eq_true, Nat.not_lt, Nat.not_le] at h66
      refine ev_al dK_traceTokens_69 rfl (by first | assumption | rfl) ?_
      refine ev_getrP dK_traceTokens_70 fK_69 (sh_S hn) (zq hP (pt_found hn)) ?_
      refine ev_il dK_traceTokens_73 rfl (by first | assumption | rfl) ?_
      refine ev_aldN dK_traceTokens_75 rfl (sh_found hn) (by omega) ?_
      rw [(hV1.2.2.1 k (by omega)).1]
      have hvb := (hV1.2.2.1 k (by omega)).2
      refine ev_il dK_traceTokens_76 rfl (by first | assumption | rfl) ?_
      refine ev_icmp (tgt := 87) dK_traceTokens_78 (by decide) (fun h78 => ?_) (fun h78 => ?_)
      · simp only [zcond] at h78
        try rw [Int32.not_le] at h78
        exact hR k (Nat.le_refl _) (by omega) (fun j h1 h2 => absurd h1 (by omega)) (fun hlt => by first | exact h78 | omega) L hL0 hL3 hL4 hL6 hL7 hL5 hLp hLg
      · simp only [zcond] at h78
        try rw [Int32.not_le] at h78
        refine ev_inc1 dK_traceTokens_81 (by first | assumption | rfl) ?_
        refine ev_goto (tgt := 60) dK_traceTokens_84 (by decide) ?_
        refine ih (k + 1) _ (by omega) (by first | assumption | rfl) (by first | assumption | rfl) (by first | assumption | rfl) rfl (by first | assumption | rfl) (by first | assumption | rfl) (by first | assumption | rfl) (by first | assumption | rfl) ?_
        intro k' hk1 hk2 hk3 hk4
        exact hR k' (by omega) hk2 (fun j hj1 hj2 => by
          by_cases hjk : j = k
          · subst hjk; exact h78
          · exact hk3 j (by omega) hj2) hk4
theorem dueV_lt {p g w v x : Nat} (hw : w ≤ 40) (hv : v < 2 ^ 24) (h : dueV p g w v = some x) : x < 2 ^ 31 := by
  unfold dueV at h
  split at h
  · cases h; omega
  · split at h
    · cases h; omega
    · cases h
theorem nI_nm1 {a : Nat} (h : a < 2 ^ 31) : ¬ nI a < -1 := by
  intro h1
  have h2 := Int32.lt_iff_toInt_lt.mp h1
  rw [nI_toInt h] at h2
  have : (-1 : Int32).toInt = -1 := by decide
  omega
theorem nI_ne1 {a : Nat} (h : a < 2 ^ 31) : ¬ nI a = -1 := by
  intro h1
  have h2 := congrArg Int32.toInt h1
  rw [nI_toInt h] at h2
  have : (-1 : Int32).toInt = -1 := by decide
  omega
theorem Pkd.I {M : zM} {r nT o k : Nat} {V : Nat → Nat} {x : Int32} (h : Pkd M r nT V) (ho : r + 1 ≠ o ∧ r + 4 ≠ o) : Pkd (zI M o k x) r nT V :=
  ⟨(zI_o ho.1).trans h.1, h.2.1, fun k hk => ⟨(zI_o ho.2).trans (h.2.2.1 k hk).1, (h.2.2.1 k hk).2⟩, h.2.2.2⟩
theorem Pkd.S {M M' : zM} {r nT c : Nat} {V : Nat → Nat} (h : Pkd M r nT V) (hs : zSame (fun o _ => o = c) M M') (ho : r + 1 ≠ c ∧ r + 4 ≠ c) : Pkd M' r nT V :=
  ⟨(hs.2 _ _ ho.1).trans h.1, h.2.1, fun k hk => ⟨(hs.2 _ _ ho.2).trans (h.2.2.1 k hk).1, (h.2.2.1 k hk).2⟩, h.2.2.2⟩
set_option maxRecDepth 100000 in
set_option maxHeartbeats 4000000 in
theorem l_trace {n0 n1 p g w : Nat} {V0 V1 : Nat → Nat} (hn : zR n) (hb : zR b) (hp : p ≤ 160) (hg : g ≤ 160) (hw40 : w ≤ 40) (hdue : ∀ i i', i < i' → i' < n0 → ∀ x y, dueV p g w (V0 i) = some x → dueV p g w (V0 i') = some y → x < y) {R : Option Int32 → zM → Prop} : ∀ (f i k : Nat) (M : zM) (L : Nat → Value), i + f = n0 → M.2.1 = zP0 n b → Pkd M n n1 V1 → Pkd M b n0 V0 → M.1 0 1 = nI w → (∀ j, j < n1 → M.1 24 j = oV (oO p g w V0 V1 j i)) → k ≤ n1 → (∀ j, j < k → ∀ i', i ≤ i' → i' < n0 → ∀ x, dueV p g w (V0 i') = some x → V1 j < x) → L 0 = .ref 0 → L 3 = .ref (n + 1) → L 4 = .int (nI (oC p g w V0 V1 n1 i)) → L 5 = .int (nI k) → L 6 = .int (nI i) → L 1 = .int (nI p) → L 2 = .int (nI g) → (∀ M', zSame (fun o _ => o = 24) M M' → (∀ j, j < n1 → M'.1 24 j = oV (oO p g w V0 V1 j n0)) → R (some (nI (oC p g w V0 V1 n1 n0))) M') → Ev Lx xs (d + 3) mK_traceTokens 25 L [] M (zpost mK_traceTokens R) := by
  have hn24 : n + 1 ≠ 24 ∧ n + 4 ≠ 24 := by rcases hn with rfl | rfl <;> omega
  have hb24 : b + 1 ≠ 24 ∧ b + 4 ≠ 24 := by rcases hb with rfl | rfl <;> omega
  intro f
  induction f with
  | zero =>
    intro i k M L hf hP hV1 hV0 hw hO hk hI hL0 hL3 hL4 hL5 hL6 hL1 hL2 hR
    have hn0 := hV0.2.1
    refine ev_il dK_traceTokens_25 rfl (by first | assumption | rfl) ?_
    refine ev_al dK_traceTokens_27 rfl (by first | assumption | rfl) ?_
    refine ev_getrP dK_traceTokens_28 fK_20 rfl (zq (q := b) hP rfl) ?_
    refine ev_getrP dK_traceTokens_31 fK_31 (sh_R hb) (zq hP (pt_source hb)) ?_
    refine ev_geti dK_traceTokens_34 fK_63 (sh_S hb) ?_
    rw [hV0.1]
    refine ev_icmp (tgt := 126) dK_traceTokens_37 (by decide) (fun h37 => ?_) (fun h37 => ?_)
    · try simp (disch := omega) only [zcond, nI_ltI, nI_leI, nI_eq, zb0, Classical.not_not, Bool.not_eq_false, Bool.not_eq_true, Nat.not_lt, Nat.not_le] at h37
      refine ev_il dK_traceTokens_126 rfl (by first | assumption | rfl) ?_
      refine ev_ret dK_traceTokens_128 rfl rfl ?_
      obtain rfl : i = n0 := by omega
      exact hR M (zSame.rf _ _) hO
    · first | omega | (simp (disch := omega) only [zcond, nI_ltI, nI_leI, nI_eq] at h37; omega)
  | succ f ih =>
    intro i k M L hf hP hV1 hV0 hw hO hk hI hL0 hL3 hL4 hL5 hL6 hL1 hL2 hR
    have hn0 := hV0.2.1
    have hn1 := hV1.2.1
    refine ev_il dK_traceTokens_25 rfl (by first | assumption | rfl) ?_
    refine ev_al dK_traceTokens_27 rfl (by first | assumption | rfl) ?_
    refine ev_getrP dK_traceTokens_28 fK_20 rfl (zq (q := b) hP rfl) ?_
    refine ev_getrP dK_traceTokens_31 fK_31 (sh_R hb) (zq hP (pt_source hb)) ?_
    refine ev_geti dK_traceTokens_34 fK_63 (sh_S hb) ?_
    rw [hV0.1]
    refine ev_icmp (tgt := 126) dK_traceTokens_37 (by decide) (fun h37 => ?_) (fun h37 => ?_)
    · first | omega | (simp (disch := omega) only [zcond, nI_ltI, nI_leI, nI_eq] at h37; omega)
    · try simp (disch := omega) only [zcond, nI_ltI, nI_leI, nI_eq, zb0, Classical.not_not, Bool.not_eq_false, Bool.not_eq_true, Nat.not_lt, Nat.not_le] at h37
      refine ev_al dK_traceTokens_40 rfl (by first | assumption | rfl) ?_
      refine ev_getrP dK_traceTokens_41 fK_20 rfl (zq (q := b) hP rfl) ?_
      refine ev_getrP dK_traceTokens_44 fK_31 (sh_R hb) (zq hP (pt_source hb)) ?_
      refine ev_il dK_traceTokens_47 rfl (by first | assumption | rfl) ?_
      refine ev_il dK_traceTokens_49 rfl (by first | assumption | rfl) ?_
      refine ev_il dK_traceTokens_50 rfl (by first | assumption | rfl) ?_
      refine ev_al dK_traceTokens_51 rfl (by first | assumption | rfl) ?_
      refine ev_geti dK_traceTokens_52 fK_27 rfl ?_
      rw [hw]
      refine ev_pV dK_traceTokens_55 (c_movedToken hP hb (by omega) (hV0.2.2.1 i (by omega)).1 (hV0.2.2.1 i (by omega)).2 hp hg) lK_120 (rec_S hb) rfl (Nat.le_of_ble_eq_true rfl) rfl (Nat.le_of_ble_eq_true rfl) ?_
      rw [dueV_i]
      refine ev_is dK_traceTokens_58 rfl (Nat.le_of_ble_eq_true rfl) ?_
      refine l_traceIn (M := M) hP hn hV1 (n1 - k) k _ (by omega) (by first | assumption | rfl) (by first | assumption | rfl) (by first | assumption | rfl) (by first | assumption | rfl) (by first | assumption | rfl) rfl (by first | assumption | rfl) (by first | assumption | rfl) ?_
      intro k' hk1 hk2 hk3 hk4 L' hL0' hL3' hL4' hL6' hL7' hL5' hL1' hL2'
      have hlow : ∀ x, dueV p g w (V0 i) = some x → ∀ j, j < k' → V1 j < x := by
        intro x hx j hj
        by_cases hjk : j < k
        · exact hI j hjk i (Nat.le_refl _) (by omega) x hx
        · have h1 := hk3 j (by omega) hj
          rw [hx] at h1
          exact (nI_ltI (Nat.lt_trans (hV1.2.2.1 j (by omega)).2 (by omega)) (dueV_lt (by omega) (hV0.2.2.1 i (by omega)).2 hx)).mp h1
      have hI2 : ∀ j, j < k' → ∀ i', i + 1 ≤ i' → i' < n0 → ∀ y, dueV p g w (V0 i') = some y → V1 j < y := by
        intro j hj i' h1 h2 y hy
        cases hdx : dueV p g w (V0 i) with
        | some x => exact Nat.lt_trans (hlow x hdx j hj) (hdue i i' (by omega) h2 x y hdx hy)
        | none =>
          by_cases hjk : j < k
          · exact hI j hjk i' (by omega) h2 y hy
          · have h3 := hk3 j (by omega) hj
            rw [hdx] at h3
            exact absurd h3 (nI_nm1 (Nat.lt_trans (hV1.2.2.1 j (by omega)).2 (by omega)))
      refine ev_il dK_traceTokens_87 rfl (by first | assumption | rfl) ?_
      refine ev_al dK_traceTokens_89 rfl (by first | assumption | rfl) ?_
      refine ev_geti dK_traceTokens_90 fK_63 (sh_S hn) ?_
      rw [hV1.1]
      refine ev_icmp (tgt := 120) dK_traceTokens_93 (by decide) (fun h93 => ?_) (fun h93 => ?_)
      · try simp (disch := omega) only [zcond, nI_ltI, nI_leI, nI_eq, zb0, Classical.not_not, Bool.not_eq_false, Bool.not_eq_true, Nat.not_lt, Nat.not_le] at h93
        refine ev_inc1 dK_traceTokens_120 (by first | assumption | rfl) ?_
        refine ev_goto (tgt := 25) dK_traceTokens_123 (by decide) ?_
        first
        | (
           have hvk := Nat.lt_trans (hV1.2.2.1 k' h93).2 (show 2 ^ 24 < 2 ^ 31 by decide)
           have hyes : dueV p g w (V0 i) = some (V1 k') := by
             cases hdx : dueV p g w (V0 i) with
             | none => rw [hdx] at h105; exact absurd h105 (nI_ne1 hvk)
             | some x => rw [hdx] at h105; rw [(nI_eq hvk (dueV_lt (by omega) (hV0.2.2.1 i (by omega)).2 hdx)).mp h105]
           refine ih (i + 1) k' (zI M 24 k' (nI i)) _ (by omega) hP (hV1.I (by omega)) (hV0.I (by omega)) ((zI_o (by omega)).trans hw) (fun j hj => ?_) hk2 hI2 (by first | assumption | rfl) (by first | assumption | rfl) (by rw [oC, oSt_t h93 hyes]; rfl) (by first | assumption | rfl) rfl (by first | assumption | rfl) (by first | assumption | rfl) (fun M' hs hO' => hR M' ((zSame.I (S := fun o _ => o = 24) (zSame.rf _ M) rfl).tr hs) hO')
           rw [oO]
           by_cases hjk : j = k'
           · subst hjk; rw [if_pos hyes, zI_s]; rfl
           · rw [if_neg, zI_k hjk]
             · exact hO j hj
             · rw [hyes]
               intro he
               have he := Option.some.inj he
               rcases Nat.lt_or_gt_of_ne hjk with h1 | h1
               · have := hV1.2.2.2 j k' h1 h93; omega
               · have := hV1.2.2.2 k' j h1 hj; omega)
        | (
           have hno : ∀ j, j < n1 → ¬ dueV p g w (V0 i) = some (V1 j) := by
             intro j hj he
             have h1 := hlow _ he
             by_cases hjk : j < k'
             · exact Nat.lt_irrefl _ (h1 j hjk)
             · first
               | omega
               | (have h2 := hk4 (by omega)
                  rw [he] at h2 h105
                  have h3 := (nI_leI (Nat.lt_trans (hV1.2.2.1 j hj).2 (by omega)) (Nat.lt_trans (hV1.2.2.1 k' (by omega)).2 (by omega))).mp h2
                  by_cases hjk2 : j = k'
                  · subst hjk2; exact h105 rfl
                  · have := hV1.2.2.2 k' j (by omega) hj
                    omega)
           refine ih (i + 1) k' M _ (by omega) hP hV1 hV0 hw (fun j hj => ?_) hk2 hI2 (by first | assumption | rfl) (by first | assumption | rfl) (by rw [oC, oSt_f hno]; exact hL4') (by first | assumption | rfl) rfl (by first | assumption | rfl) (by first | assumption | rfl) hR
           rw [oO, if_neg (hno j hj)]
           exact hO j hj)
      · try simp (disch := omega) only [zcond, nI_ltI, nI_leI, nI_eq, zb0, Classical.not_not, Bool.not_eq_false, Bool.not_eq_true, Nat.not_lt, Nat.not_le] at h93
        refine ev_al dK_traceTokens_96 rfl (by first | assumption | rfl) ?_
        refine ev_getrP dK_traceTokens_97 fK_69 (sh_S hn) (zq hP (pt_found hn)) ?_
        refine ev_il dK_traceTokens_100 rfl (by first | assumption | rfl) ?_
        refine ev_aldN dK_traceTokens_102 rfl (sh_found hn) (by omega) ?_
        rw [(hV1.2.2.1 k' (by omega)).1]
        refine ev_il dK_traceTokens_103 rfl (by first | assumption | rfl) ?_
        refine ev_icmp (tgt := 120) dK_traceTokens_105 (by decide) (fun h105 => ?_) (fun h105 => ?_)
        · simp only [zcond, Classical.not_not] at h105
          refine ev_inc1 dK_traceTokens_120 (by first | assumption | rfl) ?_
          refine ev_goto (tgt := 25) dK_traceTokens_123 (by decide) ?_
          first
          | (
             have hvk := Nat.lt_trans (hV1.2.2.1 k' h93).2 (show 2 ^ 24 < 2 ^ 31 by decide)
             have hyes : dueV p g w (V0 i) = some (V1 k') := by
               cases hdx : dueV p g w (V0 i) with
               | none => rw [hdx] at h105; exact absurd h105 (nI_ne1 hvk)
               | some x => rw [hdx] at h105; rw [(nI_eq hvk (dueV_lt (by omega) (hV0.2.2.1 i (by omega)).2 hdx)).mp h105]
             refine ih (i + 1) k' (zI M 24 k' (nI i)) _ (by omega) hP (hV1.I (by omega)) (hV0.I (by omega)) ((zI_o (by omega)).trans hw) (fun j hj => ?_) hk2 hI2 (by first | assumption | rfl) (by first | assumption | rfl) (by rw [oC, oSt_t h93 hyes]; rfl) (by first | assumption | rfl) rfl (by first | assumption | rfl) (by first | assumption | rfl) (fun M' hs hO' => hR M' ((zSame.I (S := fun o _ => o = 24) (zSame.rf _ M) rfl).tr hs) hO')
             rw [oO]
             by_cases hjk : j = k'
             · subst hjk; rw [if_pos hyes, zI_s]; rfl
             · rw [if_neg, zI_k hjk]
               · exact hO j hj
               · rw [hyes]
                 intro he
                 have he := Option.some.inj he
                 rcases Nat.lt_or_gt_of_ne hjk with h1 | h1
                 · have := hV1.2.2.2 j k' h1 h93; omega
                 · have := hV1.2.2.2 k' j h1 hj; omega)
          | (
             have hno : ∀ j, j < n1 → ¬ dueV p g w (V0 i) = some (V1 j) := by
               intro j hj he
               have h1 := hlow _ he
               by_cases hjk : j < k'
               · exact Nat.lt_irrefl _ (h1 j hjk)
               · first
                 | omega
                 | (have h2 := hk4 (by omega)
                    rw [he] at h2 h105
                    have h3 := (nI_leI (Nat.lt_trans (hV1.2.2.1 j hj).2 (by omega)) (Nat.lt_trans (hV1.2.2.1 k' (by omega)).2 (by omega))).mp h2
                    by_cases hjk2 : j = k'
                    · subst hjk2; exact h105 rfl
                    · have := hV1.2.2.2 k' j (by omega) hj
                      omega)
             refine ih (i + 1) k' M _ (by omega) hP hV1 hV0 hw (fun j hj => ?_) hk2 hI2 (by first | assumption | rfl) (by first | assumption | rfl) (by rw [oC, oSt_f hno]; exact hL4') (by first | assumption | rfl) rfl (by first | assumption | rfl) (by first | assumption | rfl) hR
             rw [oO, if_neg (hno j hj)]
             exact hO j hj)
        · simp only [zcond, Classical.not_not] at h105
          refine ev_al dK_traceTokens_108 rfl (by first | assumption | rfl) ?_
          refine ev_getrP dK_traceTokens_109 fK_23 rfl (zq (q := 24) hP rfl) ?_
          refine ev_il dK_traceTokens_112 rfl (by first | assumption | rfl) ?_
          refine ev_il dK_traceTokens_114 rfl (by first | assumption | rfl) ?_
          refine ev_iastN dK_traceTokens_116 rfl (by omega) ?_
          refine ev_inc1 dK_traceTokens_117 (by first | assumption | rfl) ?_
          refine ev_inc1 dK_traceTokens_120 (by first | assumption | rfl) ?_
          refine ev_goto (tgt := 25) dK_traceTokens_123 (by decide) ?_
          first
          | (
             have hvk := Nat.lt_trans (hV1.2.2.1 k' h93).2 (show 2 ^ 24 < 2 ^ 31 by decide)
             have hyes : dueV p g w (V0 i) = some (V1 k') := by
               cases hdx : dueV p g w (V0 i) with
               | none => rw [hdx] at h105; exact absurd h105 (nI_ne1 hvk)
               | some x => rw [hdx] at h105; rw [(nI_eq hvk (dueV_lt (by omega) (hV0.2.2.1 i (by omega)).2 hdx)).mp h105]
             refine ih (i + 1) k' (zI M 24 k' (nI i)) _ (by omega) hP (hV1.I (by omega)) (hV0.I (by omega)) ((zI_o (by omega)).trans hw) (fun j hj => ?_) hk2 hI2 (by first | assumption | rfl) (by first | assumption | rfl) (by rw [oC, oSt_t h93 hyes]; rfl) (by first | assumption | rfl) rfl (by first | assumption | rfl) (by first | assumption | rfl) (fun M' hs hO' => hR M' ((zSame.I (S := fun o _ => o = 24) (zSame.rf _ M) rfl).tr hs) hO')
             rw [oO]
             by_cases hjk : j = k'
             · subst hjk; rw [if_pos hyes, zI_s]; rfl
             · rw [if_neg, zI_k hjk]
               · exact hO j hj
               · rw [hyes]
                 intro he
                 have he := Option.some.inj he
                 rcases Nat.lt_or_gt_of_ne hjk with h1 | h1
                 · have := hV1.2.2.2 j k' h1 h93; omega
                 · have := hV1.2.2.2 k' j h1 hj; omega)
          | (
             have hno : ∀ j, j < n1 → ¬ dueV p g w (V0 i) = some (V1 j) := by
               intro j hj he
               have h1 := hlow _ he
               by_cases hjk : j < k'
               · exact Nat.lt_irrefl _ (h1 j hjk)
               · first
                 | omega
                 | (have h2 := hk4 (by omega)
                    rw [he] at h2 h105
                    have h3 := (nI_leI (Nat.lt_trans (hV1.2.2.1 j hj).2 (by omega)) (Nat.lt_trans (hV1.2.2.1 k' (by omega)).2 (by omega))).mp h2
                    by_cases hjk2 : j = k'
                    · subst hjk2; exact h105 rfl
                    · have := hV1.2.2.2 k' j (by omega) hj
                      omega)
             refine ih (i + 1) k' M _ (by omega) hP hV1 hV0 hw (fun j hj => ?_) hk2 hI2 (by first | assumption | rfl) (by first | assumption | rfl) (by rw [oC, oSt_f hno]; exact hL4') (by first | assumption | rfl) rfl (by first | assumption | rfl) (by first | assumption | rfl) hR
             rw [oO, if_neg (hno j hj)]
             exact hO j hj)
set_option maxRecDepth 100000 in
set_option maxHeartbeats 4000000 in
theorem c_traceTokens {M : zM} {n0 n1 p g w : Nat} {V0 V1 : Nat → Nat} (hP : M.2.1 = zP0 n b) (hn : zR n) (hb : zR b) (hp : p ≤ 160) (hg : g ≤ 160) (hw40 : w ≤ 40) (hdue : ∀ i i', i < i' → i' < n0 → ∀ x y, dueV p g w (V0 i) = some x → dueV p g w (V0 i') = some y → x < y) (hV1 : Pkd M n n1 V1) (hV0 : Pkd M b n0 V0) (hw : M.1 0 1 = nI w) : Ct Lx xs (d + 3) mK_traceTokens [.ref 0, .int (nI p), .int (nI g)] M (fun q M' => q = some (nI (oC p g w V0 V1 n1 n0)) ∧ zSame (fun o _ => o = 24) M M' ∧ ∀ j, j < n1 → M'.1 24 j = oV (oO p g w V0 V1 j n0)) := by
  unfold Ct
  refine ev_al dK_traceTokens_0 rfl (by first | assumption | rfl) ?_
  refine ev_getrP dK_traceTokens_1 fK_16 rfl (zq (q := n) hP rfl) ?_
  refine ev_getrP dK_traceTokens_4 fK_31 (sh_R hn) (zq hP (pt_source hn)) ?_
  refine ev_as dK_traceTokens_7 rfl (Nat.le_of_ble_eq_true rfl) ?_
  refine ev_const (v := nI 0) dK_traceTokens_8 (by decide) ?_
  refine ev_is dK_traceTokens_9 rfl (Nat.le_of_ble_eq_true rfl) ?_
  refine ev_const (v := nI 0) dK_traceTokens_11 (by decide) ?_
  refine ev_is dK_traceTokens_12 rfl (Nat.le_of_ble_eq_true rfl) ?_
  refine ev_al dK_traceTokens_14 rfl (by first | assumption | rfl) ?_
  refine ev_getrP dK_traceTokens_15 fK_23 rfl (zq (q := 24) hP rfl) ?_
  refine ev_const (v := -1) dK_traceTokens_18 (by decide) ?_
  refine ev_cS dK_traceTokens_19 c_fillA lK_115 rfl (Nat.le_of_ble_eq_true rfl) rfl (Nat.le_of_ble_eq_true rfl) (fun q M1 hq => ?_)
  obtain ⟨rfl, hs1, hall⟩ := hq
  refine ev_const (v := nI 0) dK_traceTokens_22 (by decide) ?_
  refine ev_is dK_traceTokens_23 rfl (Nat.le_of_ble_eq_true rfl) ?_
  have hn24 : n + 1 ≠ 24 ∧ n + 4 ≠ 24 := by rcases hn with rfl | rfl <;> omega
  have hb24 : b + 1 ≠ 24 ∧ b + 4 ≠ 24 := by rcases hb with rfl | rfl <;> omega
  refine l_trace hn hb hp hg hw40 hdue n0 0 0 M1 _ (by omega) (hs1.P hP) (hV1.S hs1 hn24) (hV0.S hs1 hb24) ((hs1.2 0 1 (by omega)).trans hw) (fun j hj => (hall j (by have := hV1.2.1; omega)).trans rfl) (Nat.zero_le _) (fun j hj => absurd hj (Nat.not_lt_zero j)) rfl rfl rfl rfl rfl rfl rfl ?_
  intro M' hs hO
  exact ⟨rfl, hs1.tr hs, hO⟩
end
