/- Source: movedToken, areSame, digitsValue, findTokens (rows laid by program) -/
theorem lMk_lt {k c : Nat} (hc : c < 128) : lMk k c < 128 := by
  unfold lMk
  repeat' split
  all_goals omega
theorem lPk_k (t : Nat → Nat) (e p : Nat) : lPk t e p % 8 = lKind t e p := by
  have := lKind_lt t e p
  unfold lPk; omega
theorem lPk_e {t : Nat → Nat} {e p : Nat} (he : e ≤ 160) (hp : p < e) : lPk t e p / 2048 + lPk t e p % 2048 / 8 = lEnd t e p := by
  have := lKind_lt t e p
  have := lEnd_in t hp
  unfold lPk; omega
theorem lPk_lt {t : Nat → Nat} {e p : Nat} (he : e ≤ 160) (hp : p < e) : lPk t e p < 2 ^ 31 := by
  have := lKind_lt t e p
  have := lEnd_in t hp
  unfold lPk; omega
/-- a number's digits -/
def lDv (t : Nat → Nat) (p : Nat) : Nat → Int32
  | 0 => nI 0
  | i + 1 => nI 10 * lDv t p i + (nI (t (p + i)) - nI 48)
def lSame (t : Nat → Nat) : Nat → Nat → Nat → Bool
  | 0, _, _ => true
  | f + 1, p, q => if t p = t q then lSame t f (p + 1) (q + 1) else false
/-- the tokens ts stand in the reading r -/
def Toks (M : zM) (r : Nat) (t : Nat → Nat) (ts : List (Nat × Nat × Nat)) : Prop := M.1 (r + 1) 4 = nI ts.length ∧ ∀ k q, ts[k]? = some q → M.1 (r + 4) k = nI (q.1 * 2048 + q.2.1 * 8 + q.2.2) ∧ M.1 (r + 5) k = nI (lMk q.2.2 (t q.1))
/-- nothing else has changed -/
def zSame (S : Nat → Nat → Prop) (M M' : zM) : Prop := M'.2 = M.2 ∧ ∀ o i, ¬ S o i → M'.1 o i = M.1 o i
theorem zSame.rf (S : Nat → Nat → Prop) (M : zM) : zSame S M M := ⟨rfl, fun _ _ _ => rfl⟩
theorem zSame.tr {S : Nat → Nat → Prop} {M M1 M2 : zM} (h : zSame S M M1) (h' : zSame S M1 M2) : zSame S M M2 := ⟨h'.1.trans h.1, fun o i hs => (h'.2 o i hs).trans (h.2 o i hs)⟩
theorem zSame.I {S : Nat → Nat → Prop} {M M1 : zM} {o k : Nat} {x : Int32} (h : zSame S M M1) (hs : S o k) : zSame S M (zI M1 o k x) :=
  ⟨h.1, fun a i hn => by rw [zI_at, if_neg (fun hh => hn (by rw [hh.1, hh.2]; exact hs))]; exact h.2 a i hn⟩
def sF (r : Nat) : Nat → Nat → Prop := fun o i => o = r + 4 ∨ o = r + 5 ∨ (o = r + 1 ∧ i = 4)
section
variable {Lx : Nat} {xs : Nat → Int32} {d : Nat} {M : zM} {n b r : Nat}
set_option maxRecDepth 100000 in
set_option maxHeartbeats 4000000 in
theorem c_movedToken {k v p g w : Nat} (hP : M.2.1 = zP0 n b) (hr : zR r) (hk : k < 160) (hv : M.1 (r + 4) k = nI v) (hv2 : v < 2 ^ 24) (hp : p ≤ 160) (hg : g ≤ 160) : Pu Lx xs (d + 2) mS_movedToken [.ref (r + 1), .int (nI k), .int (nI p), .int (nI g), .int (nI w)] M (if v / 2048 + v % 2048 / 8 ≤ p then nI v else if p + g ≤ v / 2048 then nI v + (nI w - nI g) * nI 2048 else -1) := by
  unfold Pu Ct
  have hv2 : v < 2 ^ 31 := by omega
  refine ev_al dS_movedToken_0 rfl (by first | assumption | rfl) ?_
  refine ev_il dS_movedToken_1 rfl (by first | assumption | rfl) ?_
  refine ev_pV dS_movedToken_2 (c_placeBehind hP hr hk hv hv2) lS_46 (rec_S hr) rfl (Nat.le_of_ble_eq_true rfl) rfl (Nat.le_of_ble_eq_true rfl) ?_
  refine ev_il dS_movedToken_5 rfl (by first | assumption | rfl) ?_
  refine ev_icmp (tgt := 16) dS_movedToken_6 (by decide) (fun h6 => ?_) (fun h6 => ?_)
  · try simp (disch := omega) only [zcond, nI_ltI, nI_leI, nI_eq, zb0, Classical.not_not, Bool.not_eq_false, Nat.not_lt, Nat.not_le] at h6
    refine ev_al dS_movedToken_16 rfl (by first | assumption | rfl) ?_
    refine ev_il dS_movedToken_17 rfl (by first | assumption | rfl) ?_
    refine ev_pV dS_movedToken_18 (c_placeOf hP hr hk hv hv2) lS_74 (rec_S hr) rfl (Nat.le_of_ble_eq_true rfl) rfl (Nat.le_of_ble_eq_true rfl) ?_
    refine ev_il dS_movedToken_21 rfl (by first | assumption | rfl) ?_
    refine ev_il dS_movedToken_22 rfl (by first | assumption | rfl) ?_
    first | with_reducible refine ev_addN dS_movedToken_23 ?_ | refine ev_add dS_movedToken_23 ?_
    refine ev_icmp (tgt := 43) dS_movedToken_24 (by decide) (fun h24 => ?_) (fun h24 => ?_)
    · try simp (disch := omega) only [zcond, nI_ltI, nI_leI, nI_eq, zb0, Classical.not_not, Bool.not_eq_false, Nat.not_lt, Nat.not_le] at h24
      refine ev_const (v := -1) dS_movedToken_43 (by decide) ?_
      refine ev_ret dS_movedToken_44 rfl rfl ?_
      rw [if_neg (by omega), if_neg (by omega)]; exact ⟨rfl, rfl⟩
    · try simp (disch := omega) only [zcond, nI_ltI, nI_leI, nI_eq, zb0, Classical.not_not, Bool.not_eq_false, Nat.not_lt, Nat.not_le] at h24
      refine ev_al dS_movedToken_27 rfl (by first | assumption | rfl) ?_
      refine ev_getrP dS_movedToken_28 fS_15 (sh_S hr) (zq hP (pt_found hr)) ?_
      refine ev_il dS_movedToken_31 rfl (by first | assumption | rfl) ?_
      refine ev_aldN dS_movedToken_32 rfl (sh_found hr) (by omega) ?_
      rw [hv]
      refine ev_il dS_movedToken_33 rfl (by first | assumption | rfl) ?_
      refine ev_il dS_movedToken_35 rfl (by first | assumption | rfl) ?_
      refine ev_sub dS_movedToken_36 ?_
      refine ev_const (v := nI 2048) dS_movedToken_37 (by decide) ?_
      first | with_reducible refine ev_mulN dS_movedToken_40 ?_ | refine ev_mul dS_movedToken_40 ?_
      first | with_reducible refine ev_addN dS_movedToken_41 ?_ | refine ev_add dS_movedToken_41 ?_
      refine ev_ret dS_movedToken_42 rfl rfl ?_
      rw [if_neg (by omega), if_pos h24]; exact ⟨rfl, rfl⟩
  · try simp (disch := omega) only [zcond, nI_ltI, nI_leI, nI_eq, zb0, Classical.not_not, Bool.not_eq_false, Nat.not_lt, Nat.not_le] at h6
    refine ev_al dS_movedToken_9 rfl (by first | assumption | rfl) ?_
    refine ev_getrP dS_movedToken_10 fS_15 (sh_S hr) (zq hP (pt_found hr)) ?_
    refine ev_il dS_movedToken_13 rfl (by first | assumption | rfl) ?_
    refine ev_aldN dS_movedToken_14 rfl (sh_found hr) (by omega) ?_
    rw [hv]
    refine ev_ret dS_movedToken_15 rfl rfl ?_
    rw [if_pos h6]; exact ⟨rfl, rfl⟩
set_option maxRecDepth 100000 in
set_option maxHeartbeats 4000000 in
theorem l_digitsValue {t : Nat → Nat} {e p l : Nat} (hP : M.2.1 = zP0 n b) (hr : zR r) (hT : Txt M r t e) (hl : p + l ≤ e) {R : Option Int32 → zM → Prop} (hR : R (some (lDv t p l)) M) : ∀ (f i : Nat) (L : Nat → Value), i + f = l → L 0 = .ref (r + 1) → L 2 = .int (lDv t p i) → L 3 = .int (nI p) → L 4 = .int (nI l) → L 5 = .int (nI i) → Ev Lx xs (d + 1) mS_digitsValue 18 L [] M (zpost mS_digitsValue R) := by
  have he := hT.2.1
  intro f
  induction f with
  | zero =>
    intro i L hf hL0 hL2 hL3 hL4 hL5
    refine ev_il dS_digitsValue_18 rfl (by first | assumption | rfl) ?_
    refine ev_il dS_digitsValue_20 rfl (by first | assumption | rfl) ?_
    refine ev_icmp (tgt := 49) dS_digitsValue_22 (by decide) (fun h22 => ?_) (fun h22 => ?_)
    · try simp (disch := omega) only [zcond, nI_ltI, nI_leI, nI_eq, zb0, Classical.not_not, Bool.not_eq_false, Nat.not_lt, Nat.not_le] at h22
      refine ev_il dS_digitsValue_49 rfl (by first | assumption | rfl) ?_
      refine ev_ret dS_digitsValue_50 rfl rfl ?_
      obtain rfl : i = l := by omega
      exact hR
    · first | omega | (simp (disch := omega) only [zcond, nI_ltI, nI_leI, nI_eq] at h22; omega)
  | succ f ih =>
    intro i L hf hL0 hL2 hL3 hL4 hL5
    refine ev_il dS_digitsValue_18 rfl (by first | assumption | rfl) ?_
    refine ev_il dS_digitsValue_20 rfl (by first | assumption | rfl) ?_
    refine ev_icmp (tgt := 49) dS_digitsValue_22 (by decide) (fun h22 => ?_) (fun h22 => ?_)
    · first | omega | (simp (disch := omega) only [zcond, nI_ltI, nI_leI, nI_eq] at h22; omega)
    · try simp (disch := omega) only [zcond, nI_ltI, nI_leI, nI_eq, zb0, Classical.not_not, Bool.not_eq_false, Nat.not_lt, Nat.not_le] at h22
      refine ev_const (v := nI 10) dS_digitsValue_25 (by decide) ?_
      refine ev_il dS_digitsValue_27 rfl (by first | assumption | rfl) ?_
      first | with_reducible refine ev_mulN dS_digitsValue_28 ?_ | refine ev_mul dS_digitsValue_28 ?_
      refine ev_al dS_digitsValue_29 rfl (by first | assumption | rfl) ?_
      refine ev_getrP dS_digitsValue_30 fS_9 (sh_S hr) (zq hP (pt_chars hr)) ?_
      refine ev_il dS_digitsValue_33 rfl (by first | assumption | rfl) ?_
      refine ev_il dS_digitsValue_34 rfl (by first | assumption | rfl) ?_
      first | with_reducible refine ev_addN dS_digitsValue_36 ?_ | refine ev_add dS_digitsValue_36 ?_
      refine ev_aldN dS_digitsValue_37 rfl (sh_chars hr) (by omega) ?_
      rw [(hT.2.2 (p + i) (by omega)).1]
      refine ev_const (v := nI 48) dS_digitsValue_38 (by decide) ?_
      refine ev_sub dS_digitsValue_40 ?_
      first | with_reducible refine ev_addN dS_digitsValue_41 ?_ | refine ev_add dS_digitsValue_41 ?_
      refine ev_is dS_digitsValue_42 rfl (Nat.le_of_ble_eq_true rfl) ?_
      refine ev_inc1 dS_digitsValue_43 (by first | assumption | rfl) ?_
      refine ev_goto (tgt := 18) dS_digitsValue_46 (by decide) ?_
      exact ih (i + 1) _ (by omega) (by first | assumption | rfl) rfl (by first | assumption | rfl) (by first | assumption | rfl) rfl
set_option maxRecDepth 100000 in
set_option maxHeartbeats 4000000 in
theorem c_digitsValue {t : Nat → Nat} {e k v : Nat} (hP : M.2.1 = zP0 n b) (hr : zR r) (hT : Txt M r t e) (hk : k < 160) (hv : M.1 (r + 4) k = nI v) (hv2 : v < 2 ^ 31) (hl : v / 2048 + v % 2048 / 8 ≤ e) : Pu Lx xs (d + 1) mS_digitsValue [.ref (r + 1), .int (nI k)] M (lDv t (v / 2048) (v % 2048 / 8)) := by
  unfold Pu Ct
  refine ev_const (v := nI 0) dS_digitsValue_0 (by decide) ?_
  refine ev_is dS_digitsValue_1 rfl (Nat.le_of_ble_eq_true rfl) ?_
  refine ev_al dS_digitsValue_2 rfl (by first | assumption | rfl) ?_
  refine ev_il dS_digitsValue_3 rfl (by first | assumption | rfl) ?_
  refine ev_pV dS_digitsValue_4 (c_placeOf hP hr hk hv hv2) lS_74 (rec_S hr) rfl (Nat.le_of_ble_eq_true rfl) rfl (Nat.le_of_ble_eq_true rfl) ?_
  refine ev_is dS_digitsValue_7 rfl (Nat.le_of_ble_eq_true rfl) ?_
  refine ev_al dS_digitsValue_8 rfl (by first | assumption | rfl) ?_
  refine ev_il dS_digitsValue_9 rfl (by first | assumption | rfl) ?_
  refine ev_pV dS_digitsValue_10 (c_lengthOf hP hr hk hv hv2) lS_77 (rec_S hr) rfl (Nat.le_of_ble_eq_true rfl) rfl (Nat.le_of_ble_eq_true rfl) ?_
  refine ev_is dS_digitsValue_13 rfl (Nat.le_of_ble_eq_true rfl) ?_
  refine ev_const (v := nI 0) dS_digitsValue_15 (by decide) ?_
  refine ev_is dS_digitsValue_16 rfl (Nat.le_of_ble_eq_true rfl) ?_
  exact l_digitsValue hP hr hT hl ⟨rfl, rfl⟩ (v % 2048 / 8) 0 _ (by omega) rfl rfl rfl rfl rfl
set_option maxRecDepth 100000 in
set_option maxHeartbeats 4000000 in
theorem l_areSame {t : Nat → Nat} {e p q a : Nat} (hP : M.2.1 = zP0 n b) (hr : zR r) (hT : Txt M r t e) (ha : a < 2 ^ 31) (h1 : p + a / 8 ≤ e) (h2 : q + a / 8 ≤ e) {R : Option Int32 → zM → Prop} : ∀ (f i : Nat) (L : Nat → Value), i + f = a / 8 → L 0 = .ref (r + 1) → L 3 = .int (nI a) → L 4 = .int (nI p) → L 5 = .int (nI q) → L 6 = .int (nI i) → R (some (nI (lSame t f (p + i) (q + i)).toNat)) M → Ev Lx xs d mS_areSame 54 L [] M (zpost mS_areSame R) := by
  have he := hT.2.1
  intro f
  induction f with
  | zero =>
    intro i L hf hL0 hL3 hL4 hL5 hL6 hR
    refine ev_il dS_areSame_54 rfl (by first | assumption | rfl) ?_
    refine ev_il dS_areSame_56 rfl (by first | assumption | rfl) ?_
    refine ev_const (v := nI 8) dS_areSame_57 (by decide) ?_
    refine ev_divN dS_areSame_59 (by omega) (by omega) (by omega) ?_
    refine ev_icmp (tgt := 94) dS_areSame_60 (by decide) (fun h60 => ?_) (fun h60 => ?_)
    · try simp (disch := omega) only [zcond, nI_ltI, nI_leI, nI_eq, zb0, Classical.not_not, Bool.not_eq_false, Nat.not_lt, Nat.not_le] at h60
      refine ev_const (v := nI 1) dS_areSame_94 (by decide) ?_
      refine ev_ret dS_areSame_95 rfl rfl ?_
      exact hR
    · first | omega | (simp (disch := omega) only [zcond, nI_ltI, nI_leI, nI_eq] at h60; omega)
  | succ f ih =>
    intro i L hf hL0 hL3 hL4 hL5 hL6 hR
    refine ev_il dS_areSame_54 rfl (by first | assumption | rfl) ?_
    refine ev_il dS_areSame_56 rfl (by first | assumption | rfl) ?_
    refine ev_const (v := nI 8) dS_areSame_57 (by decide) ?_
    refine ev_divN dS_areSame_59 (by omega) (by omega) (by omega) ?_
    refine ev_icmp (tgt := 94) dS_areSame_60 (by decide) (fun h60 => ?_) (fun h60 => ?_)
    · first | omega | (simp (disch := omega) only [zcond, nI_ltI, nI_leI, nI_eq] at h60; omega)
    · try simp (disch := omega) only [zcond, nI_ltI, nI_leI, nI_eq, zb0, Classical.not_not, Bool.not_eq_false, Nat.not_lt, Nat.not_le] at h60
      refine ev_al dS_areSame_63 rfl (by first | assumption | rfl) ?_
      refine ev_getrP dS_areSame_64 fS_9 (sh_S hr) (zq hP (pt_chars hr)) ?_
      refine ev_il dS_areSame_67 rfl (by first | assumption | rfl) ?_
      refine ev_il dS_areSame_69 rfl (by first | assumption | rfl) ?_
      first | with_reducible refine ev_addN dS_areSame_71 ?_ | refine ev_add dS_areSame_71 ?_
      refine ev_aldN dS_areSame_72 rfl (sh_chars hr) (by omega) ?_
      rw [(hT.2.2 (p + i) (by omega)).1]
      have hc1 := (hT.2.2 (p + i) (by omega)).2
      refine ev_al dS_areSame_73 rfl (by first | assumption | rfl) ?_
      refine ev_getrP dS_areSame_74 fS_9 (sh_S hr) (zq hP (pt_chars hr)) ?_
      refine ev_il dS_areSame_77 rfl (by first | assumption | rfl) ?_
      refine ev_il dS_areSame_79 rfl (by first | assumption | rfl) ?_
      first | with_reducible refine ev_addN dS_areSame_81 ?_ | refine ev_add dS_areSame_81 ?_
      refine ev_aldN dS_areSame_82 rfl (sh_chars hr) (by omega) ?_
      rw [(hT.2.2 (q + i) (by omega)).1]
      have hc2 := (hT.2.2 (q + i) (by omega)).2
      refine ev_icmp (tgt := 88) dS_areSame_83 (by decide) (fun h83 => ?_) (fun h83 => ?_)
      · try simp (disch := omega) only [zcond, nI_ltI, nI_leI, nI_eq, zb0, Classical.not_not, Bool.not_eq_false, Nat.not_lt, Nat.not_le] at h83
        refine ev_inc1 dS_areSame_88 (by first | assumption | rfl) ?_
        refine ev_goto (tgt := 54) dS_areSame_91 (by decide) ?_
        exact ih (i + 1) _ (by omega) (by first | assumption | rfl) (by first | assumption | rfl) (by first | assumption | rfl) (by first | assumption | rfl) rfl (by rw [lSame, if_pos h83] at hR; exact hR)
      · try simp (disch := omega) only [zcond, nI_ltI, nI_leI, nI_eq, zb0, Classical.not_not, Bool.not_eq_false, Nat.not_lt, Nat.not_le] at h83
        refine ev_const (v := nI 0) dS_areSame_86 (by decide) ?_
        refine ev_ret dS_areSame_87 rfl rfl ?_
        rw [lSame, if_neg h83] at hR
        exact hR
set_option maxRecDepth 100000 in
set_option maxHeartbeats 4000000 in
theorem c_areSame {t : Nat → Nat} {e k j v w : Nat} (hP : M.2.1 = zP0 n b) (hr : zR r) (hT : Txt M r t e) (hk : k < 160) (hj : j < 160) (hv : M.1 (r + 4) k = nI v) (hw : M.1 (r + 4) j = nI w) (hv2 : v < 2 ^ 31) (hw2 : w < 2 ^ 31) (hl : v / 2048 + v % 2048 / 8 ≤ e) (hl2 : w / 2048 + w % 2048 / 8 ≤ e) : Pu Lx xs d mS_areSame [.ref (r + 1), .int (nI k), .int (nI j)] M (nI (if v % 2048 = w % 2048 then lSame t (v % 2048 / 8) (v / 2048) (w / 2048) else false).toNat) := by
  unfold Pu Ct
  refine ev_al dS_areSame_0 rfl (by first | assumption | rfl) ?_
  refine ev_getrP dS_areSame_1 fS_15 (sh_S hr) (zq hP (pt_found hr)) ?_
  refine ev_il dS_areSame_4 rfl (by first | assumption | rfl) ?_
  refine ev_aldN dS_areSame_5 rfl (sh_found hr) (by omega) ?_
  rw [hv]
  refine ev_const (v := nI 2048) dS_areSame_6 (by decide) ?_
  refine ev_remN dS_areSame_9 (by omega) (by omega) (by omega) ?_
  refine ev_is dS_areSame_10 rfl (Nat.le_of_ble_eq_true rfl) ?_
  refine ev_il dS_areSame_11 rfl (by first | assumption | rfl) ?_
  refine ev_al dS_areSame_12 rfl (by first | assumption | rfl) ?_
  refine ev_getrP dS_areSame_13 fS_15 (sh_S hr) (zq hP (pt_found hr)) ?_
  refine ev_il dS_areSame_16 rfl (by first | assumption | rfl) ?_
  refine ev_aldN dS_areSame_17 rfl (sh_found hr) (by omega) ?_
  rw [hw]
  refine ev_const (v := nI 2048) dS_areSame_18 (by decide) ?_
  refine ev_remN dS_areSame_21 (by omega) (by omega) (by omega) ?_
  refine ev_icmp (tgt := 27) dS_areSame_22 (by decide) (fun h22 => ?_) (fun h22 => ?_)
  · try simp (disch := omega) only [zcond, nI_ltI, nI_leI, nI_eq, zb0, Classical.not_not, Bool.not_eq_false, Nat.not_lt, Nat.not_le] at h22
    refine ev_al dS_areSame_27 rfl (by first | assumption | rfl) ?_
    refine ev_getrP dS_areSame_28 fS_15 (sh_S hr) (zq hP (pt_found hr)) ?_
    refine ev_il dS_areSame_31 rfl (by first | assumption | rfl) ?_
    refine ev_aldN dS_areSame_32 rfl (sh_found hr) (by omega) ?_
    rw [hv]
    refine ev_const (v := nI 2048) dS_areSame_33 (by decide) ?_
    refine ev_divN dS_areSame_36 (by omega) (by omega) (by omega) ?_
    refine ev_is dS_areSame_37 rfl (Nat.le_of_ble_eq_true rfl) ?_
    refine ev_al dS_areSame_39 rfl (by first | assumption | rfl) ?_
    refine ev_getrP dS_areSame_40 fS_15 (sh_S hr) (zq hP (pt_found hr)) ?_
    refine ev_il dS_areSame_43 rfl (by first | assumption | rfl) ?_
    refine ev_aldN dS_areSame_44 rfl (sh_found hr) (by omega) ?_
    rw [hw]
    refine ev_const (v := nI 2048) dS_areSame_45 (by decide) ?_
    refine ev_divN dS_areSame_48 (by omega) (by omega) (by omega) ?_
    refine ev_is dS_areSame_49 rfl (Nat.le_of_ble_eq_true rfl) ?_
    refine ev_const (v := nI 0) dS_areSame_51 (by decide) ?_
    refine ev_is dS_areSame_52 rfl (Nat.le_of_ble_eq_true rfl) ?_
    rw [if_pos h22]
    exact l_areSame hP hr hT (by omega) hl (by rw [h22]; exact hl2) (v % 2048 / 8) 0 _ (by omega) rfl rfl rfl rfl rfl ⟨rfl, rfl⟩
  · try simp (disch := omega) only [zcond, nI_ltI, nI_leI, nI_eq, zb0, Classical.not_not, Bool.not_eq_false, Nat.not_lt, Nat.not_le] at h22
    refine ev_const (v := nI 0) dS_areSame_25 (by decide) ?_
    refine ev_ret dS_areSame_26 rfl rfl ?_
    rw [if_neg h22]; exact ⟨rfl, rfl⟩
set_option maxRecDepth 100000 in
set_option maxHeartbeats 4000000 in
theorem l_findTokens {t : Nat → Nat} {e : Nat} (hr : zR r) {R : Option Int32 → zM → Prop} : ∀ (f p : Nat) (ts0 : List (Nat × Nat × Nat)) (M : zM) (L : Nat → Value), M.2.1 = zP0 n b → Txt M r t e → L 0 = .ref (r + 1) → L 1 = .int (nI p) → p ≤ e → e - p < f → ts0.length ≤ p → Toks M r t ts0 → (∀ M', zSame (sF r) M M' → Toks M' r t (ts0 ++ lTok t e f p) → R none M') → Ev Lx xs (d + 5) mS_findTokens 11 L [] M (zpost mS_findTokens R) := by
  intro f
  induction f with
  | zero => intro p ts0 M L hP hT hL0 hL1 hpe hf; omega
  | succ f ih =>
    intro p ts0 M L hP hT hL0 hL1 hpe0 hf hlen hTk hR
    have he := hT.2.1
    have hc := hTk.1
    generalize hkk : ts0.length = k at hc hlen
    refine ev_il dS_findTokens_11 rfl (by first | assumption | rfl) ?_
    refine ev_al dS_findTokens_12 rfl (by first | assumption | rfl) ?_
    refine ev_geti dS_findTokens_13 fS_28 (sh_S hr) ?_
    rw [hT.1]
    refine ev_icmp (tgt := 99) dS_findTokens_16 (by decide) (fun h16 => ?_) (fun h16 => ?_)
    · try simp (disch := omega) only [zcond, nI_ltI, nI_leI, nI_eq, zb0, Classical.not_not, Bool.not_eq_false, Nat.not_lt, Nat.not_le] at h16
      refine ev_vret dS_findTokens_99 rfl ?_
      refine hR M (zSame.rf _ _) ?_
      rw [lTok, if_neg (by omega), List.append_nil]
      exact hTk
    · try simp (disch := omega) only [zcond, nI_ltI, nI_leI, nI_eq, zb0, Classical.not_not, Bool.not_eq_false, Nat.not_lt, Nat.not_le] at h16
      refine ev_al dS_findTokens_19 rfl (by first | assumption | rfl) ?_
      refine ev_geti dS_findTokens_20 fS_32 (sh_S hr) ?_
      rw [hc]
      refine ev_const (v := nI 160) dS_findTokens_23 (by decide) ?_
      refine ev_icmp (tgt := 99) dS_findTokens_26 (by decide) (fun h26 => ?_) (fun h26 => ?_)
      · first | omega | (simp (disch := omega) only [zcond, nI_ltI, nI_leI, nI_eq] at h26; omega)
      · try simp (disch := omega) only [zcond, nI_ltI, nI_leI, nI_eq, zb0, Classical.not_not, Bool.not_eq_false, Nat.not_lt, Nat.not_le] at h26
        have hk : k < 160 := by omega
        have hp : p < e := h16
        have htp := (hT.2.2 p hp).2
        have hpe := lEnd_in t hp
        have hv3 := lPk_lt (t := t) he hp
        have hbl := lBl_in t (e - lEnd t e p) (lEnd t e p) false
        refine ev_al dS_findTokens_29 rfl (by first | assumption | rfl) ?_
        refine ev_getrP dS_findTokens_30 fS_15 (sh_S hr) (zq hP (pt_found hr)) ?_
        refine ev_al dS_findTokens_33 rfl (by first | assumption | rfl) ?_
        refine ev_geti dS_findTokens_34 fS_32 (sh_S hr) ?_
        rw [hc]
        refine ev_al dS_findTokens_37 rfl (by first | assumption | rfl) ?_
        refine ev_il dS_findTokens_38 rfl (by first | assumption | rfl) ?_
        refine ev_pV dS_findTokens_39 (c_tokenFrom hP hr hT hp) lS_39 (rec_S hr) rfl (Nat.le_of_ble_eq_true rfl) rfl (Nat.le_of_ble_eq_true rfl) ?_
        refine ev_iastN dS_findTokens_42 (sh_found hr) hk ?_
        refine ev_al dS_findTokens_43 rfl (by first | assumption | rfl) ?_
        refine ev_getrP dS_findTokens_44 fS_19 (sh_S hr) (zq hP (pt_marks hr)) ?_
        refine ev_al dS_findTokens_47 rfl (by first | assumption | rfl) ?_
        refine ev_geti dS_findTokens_48 fS_32 (sh_S hr) ?_
        have hc1 : (zI M (r + 4) k (nI (lPk t e p))).1 (r + 1) 4 = nI k := (zI_o (by omega)).trans hc
        rw [hc1]
        refine ev_al dS_findTokens_51 rfl (by first | assumption | rfl) ?_
        refine ev_getrP dS_findTokens_52 fS_15 (sh_S hr) (zq hP (pt_found hr)) ?_
        refine ev_al dS_findTokens_55 rfl (by first | assumption | rfl) ?_
        refine ev_geti dS_findTokens_56 fS_32 (sh_S hr) ?_
        rw [hc1]
        refine ev_aldN dS_findTokens_59 rfl (sh_found hr) hk ?_
        rw [zI_s]
        refine ev_const (v := nI 8) dS_findTokens_60 (by decide) ?_
        refine ev_remN dS_findTokens_62 (by omega) (by omega) (by omega) ?_
        rw [lPk_k]
        refine ev_al dS_findTokens_63 rfl (by first | assumption | rfl) ?_
        refine ev_getrP dS_findTokens_64 fS_9 (sh_S hr) (zq hP (pt_chars hr)) ?_
        refine ev_il dS_findTokens_67 rfl (by first | assumption | rfl) ?_
        refine ev_aldN dS_findTokens_68 rfl (sh_chars hr) (by omega) ?_
        have ht1 : (zI M (r + 4) k (nI (lPk t e p))).1 (r + 3) p = nI (t p) := (zI_o (by omega)).trans (hT.2.2 p hp).1
        rw [ht1]
        refine ev_pS dS_findTokens_69 (c_markOf (lKind_lt t e p) (by omega)) lS_42 rfl (Nat.le_of_ble_eq_true rfl) rfl (Nat.le_of_ble_eq_true rfl) ?_
        refine ev_castN dS_findTokens_72 (sh_marks hr) hk (Nat.lt_trans (lMk_lt (by omega)) (by decide)) ?_
        refine ev_al dS_findTokens_73 rfl (by first | assumption | rfl) ?_
        refine ev_al dS_findTokens_74 rfl (by first | assumption | rfl) ?_
        refine ev_al dS_findTokens_75 rfl (by first | assumption | rfl) ?_
        refine ev_geti dS_findTokens_76 fS_32 (sh_S hr) ?_
        have hc2 : (zI (zI M (r + 4) k (nI (lPk t e p))) (r + 5) k (nI (lMk (lKind t e p) (t p)))).1 (r + 1) 4 = nI k := (zI_o (by omega)).trans hc1
        have hv2 : (zI (zI M (r + 4) k (nI (lPk t e p))) (r + 5) k (nI (lMk (lKind t e p) (t p)))).1 (r + 4) k = nI (lPk t e p) := (zI_o (by omega)).trans (zI_s _ _ _ _)
        have hT2 : Txt (zI (zI M (r + 4) k (nI (lPk t e p))) (r + 5) k (nI (lMk (lKind t e p) (t p)))) r t e := ⟨(zI_o (by omega)).trans ((zI_o (by omega)).trans hT.1), hT.2.1, fun i hi => ⟨(zI_o (by omega)).trans ((zI_o (by omega)).trans (hT.2.2 i hi).1), (hT.2.2 i hi).2⟩⟩
        rw [hc2]
        refine ev_pV dS_findTokens_79 (c_placeBehind (v := lPk t e p) hP hr hk hv2 hv3) lS_46 (rec_S hr) rfl (Nat.le_of_ble_eq_true rfl) rfl (Nat.le_of_ble_eq_true rfl) ?_
        rw [lPk_e he hp]
        refine ev_pV dS_findTokens_82 (c_passBlanks hP hr hT2 hpe.2) lS_35 (rec_S hr) rfl (Nat.le_of_ble_eq_true rfl) rfl (Nat.le_of_ble_eq_true rfl) ?_
        refine ev_is dS_findTokens_85 rfl (Nat.le_of_ble_eq_true rfl) ?_
        refine ev_al dS_findTokens_86 rfl (by first | assumption | rfl) ?_
        refine ev_stk dS_findTokens_87 rfl ?_
        refine ev_geti dS_findTokens_88 fS_32 (sh_S hr) ?_
        rw [hc2]
        refine ev_const (v := nI 1) dS_findTokens_91 (by decide) ?_
        first | with_reducible refine ev_addN dS_findTokens_92 ?_ | refine ev_add dS_findTokens_92 ?_
        refine ev_puti dS_findTokens_93 fS_32 fwS_count (sh_S hr) (vp_nar_int _) rfl ?_
        have hs3 : zSame (sF r) M (zI (zI (zI M (r + 4) k (nI (lPk t e p))) (r + 5) k (nI (lMk (lKind t e p) (t p)))) (r + 1) 4 (nI (k + 1))) := (((zSame.rf (sF r) M).I (Or.inl rfl)).I (Or.inr (Or.inl rfl))).I (Or.inr (Or.inr ⟨rfl, rfl⟩))
        have hT3 : Txt (zI (zI (zI M (r + 4) k (nI (lPk t e p))) (r + 5) k (nI (lMk (lKind t e p) (t p)))) (r + 1) 4 (nI (k + 1))) r t e := ⟨(zI_k (by omega)).trans hT2.1, hT.2.1, fun i hi => ⟨(zI_o (by omega)).trans (hT2.2.2 i hi).1, (hT.2.2 i hi).2⟩⟩
        have hTk3 : Toks (zI (zI (zI M (r + 4) k (nI (lPk t e p))) (r + 5) k (nI (lMk (lKind t e p) (t p)))) (r + 1) 4 (nI (k + 1))) r t (ts0 ++ [(p, lEnd t e p - p, lKind t e p)]) := by
          refine ⟨?_, fun j q hj => ?_⟩
          · rw [zI_s, List.length_append, hkk]; rfl
          · rw [List.getElem?_append] at hj
            split at hj
            · rename_i hlt
              obtain ⟨h1, h2⟩ := hTk.2 j q hj
              exact ⟨(zI_o (by omega)).trans ((zI_o (by omega)).trans ((zI_k (by omega)).trans h1)), (zI_o (by omega)).trans ((zI_k (by omega)).trans ((zI_o (by omega)).trans h2))⟩
            · rename_i hge
              obtain rfl : j = k := by
                have := (List.getElem?_eq_some_iff.mp hj).1
                simp at this; omega
              rw [hkk, Nat.sub_self] at hj
              cases hj
              exact ⟨(zI_o (by omega)).trans hv2, (zI_o (by omega)).trans (zI_s _ _ _ _)⟩
        refine ev_goto (tgt := 11) dS_findTokens_96 (by decide) ?_
        refine ih _ (ts0 ++ [(p, lEnd t e p - p, lKind t e p)]) _ _ hP hT3 (by first | assumption | rfl) rfl (by omega) (by omega) ?_ ?_ ?_
        · rw [List.length_append]; show ts0.length + 1 ≤ _; omega
        · exact hTk3
        · intro M' hs hk'
          refine hR M' (hs3.tr hs) ?_
          rw [lTok, if_pos hp]
          rw [List.append_assoc] at hk'
          exact hk'
end
