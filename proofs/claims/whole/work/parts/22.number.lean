/- KeptItems: oldItem, numberItems (rows laid by program) -/
/-- the tokens behind the first stayed one behind another -/
def oRun (O : Nat → Option Nat) (q a : Nat) : Nat → Nat → Bool
  | 0, _ => true
  | f + 1, j => decide (O j = some (q + (j - a))) && oRun O q a f (j + 1)
/-- which old item stayed as the item of the tokens a to z -/
def oItem (O : Nat → Option Nat) (fi0 la0 : Nat → Nat) (c0 a z : Nat) : Int32 := match O a with
  | none => -1
  | some q => if oRun O q a (z - a) (a + 1) = true then tFi fi0 la0 q (q + (z - a)) c0 0 else -1
theorem oRun_last {O : Nat → Option Nat} {q a : Nat} : ∀ (f j : Nat), oRun O q a f j = true → ∀ i, j ≤ i → i < j + f → O i = some (q + (i - a))
  | 0, j, _, i, h1, h2 => absurd h2 (by omega)
  | f + 1, j, h, i, h1, h2 => by
    unfold oRun at h
    rw [Bool.and_eq_true] at h
    by_cases hij : i = j
    · subst hij; exact of_decide_eq_true h.1
    · exact oRun_last f (j + 1) h.2 i (by omega) (by omega)
theorem oV_dif {x : Option Nat} {q j a : Nat} (hx : ∀ i, x = some i → i < 2 ^ 20) (hq : q < 2 ^ 20) (ha : a < j) (hj : j < 2 ^ 20) : (oV x - nI q = nI (j - a)) ↔ x = some (q + (j - a)) := by
  constructor
  · intro h
    have h2 : oV x = nI (q + (j - a)) := by
      rw [Nat.add_comm q (j - a), ← nI_add, ← h]; exact (Int32.sub_add_cancel _ _).symm
    cases x with
    | none => exact absurd h2.symm (nI_ne1 (by omega))
    | some i => rw [(nI_eq (Nat.lt_trans (hx i rfl) (by decide)) (by omega)).mp h2]
  · intro h
    subst h
    show nI (q + (j - a)) - nI q = nI (j - a)
    rw [pk_sub (by omega)]; congr 1; omega
section
variable {Lx : Nat} {xs : Nat → Int32} {d : Nat} {M : zM} {n b : Nat}
set_option maxRecDepth 100000 in
set_option maxHeartbeats 4000000 in
theorem l_oldItem {c0 a z : Nat} {O : Nat → Option Nat} {fi0 la0 : Nat → Nat} (hP : M.2.1 = zP0 n b) (hn : zR n) (hb : zR b) (hz : a ≤ z ∧ z < 160) (hO : ∀ j, j ≤ z → M.1 24 j = oV (O j) ∧ ∀ i, O j = some i → i < 160) (hc0 : M.1 (b + 2) 5 = nI c0) (hc02 : c0 ≤ 160) (hfi0 : ∀ k, k < c0 → M.1 (b + 6) k = nI (fi0 k) ∧ M.1 (b + 7) k = nI (la0 k) ∧ fi0 k < 2 ^ 31 ∧ la0 k < 2 ^ 31) {q : Nat} (hOa : O a = some q) {R : Option Int32 → zM → Prop} : ∀ (f j : Nat) (L : Nat → Value), j + f = z + 1 → a < j → (∀ i, a < i → i < j → O i = some (q + (i - a))) → L 0 = .ref 0 → L 2 = .int (nI a) → L 3 = .int (nI z) → L 4 = .int (nI q) → L 5 = .int (nI j) → R (some (if oRun O q a f j = true then tFi fi0 la0 q (q + (z - a)) c0 0 else -1)) M → Ev Lx xs (d + 1) mK_oldItem 47 L [] M (zpost mK_oldItem R) := by
  have hq := (hO a hz.1).2 q hOa
  intro f
  induction f with
  | zero =>
    intro j L hf haj hrun hL0 hL2 hL3 hL4 hL5 hR
    refine ev_il dK_oldItem_47 rfl (by first | assumption | rfl) ?_
    refine ev_il dK_oldItem_49 rfl (by first | assumption | rfl) ?_
    refine ev_icmp (tgt := 78) dK_oldItem_50 (by decide) (fun h50 => ?_) (fun h50 => ?_)
    · try simp (disch := omega) only [zcond, nI_ltI, nI_leI, nI_eq, zb0, Classical.not_not, Bool.not_eq_false, Bool.not_eq_true, Nat.not_lt, Nat.not_le] at h50
      refine ev_al dK_oldItem_78 rfl (by first | assumption | rfl) ?_
      refine ev_getrP dK_oldItem_79 fK_20 rfl (zq (q := b) hP rfl) ?_
      refine ev_getrP dK_oldItem_82 fK_76 (sh_R hb) (zq hP (pt_tree hb)) ?_
      refine ev_il dK_oldItem_85 rfl (by first | assumption | rfl) ?_
      refine ev_al dK_oldItem_87 rfl (by first | assumption | rfl) ?_
      refine ev_getrP dK_oldItem_88 fK_23 rfl (zq (q := 24) hP rfl) ?_
      refine ev_il dK_oldItem_91 rfl (by first | assumption | rfl) ?_
      refine ev_aldN dK_oldItem_92 rfl rfl (by omega) ?_
      have hz1 : O z = some (q + (z - a)) := by
        by_cases haz : a = z
        · subst haz; rw [hOa]; congr 1; omega
        · exact hrun z (by omega) (by omega)
      rw [(hO z (Nat.le_refl z)).1, hz1]
      show Ev _ _ _ _ _ _ [.int (nI (q + (z - a))), _, _] _ _
      refine ev_pV dK_oldItem_93 (c_itemOfTokens hP hb hc0 hc02 (by omega) (by omega) hfi0) lK_130 (rec_T hb) rfl (Nat.le_of_ble_eq_true rfl) rfl (Nat.le_of_ble_eq_true rfl) ?_
      refine ev_ret dK_oldItem_96 rfl rfl ?_
      exact hR
    · first | omega | (simp (disch := omega) only [zcond, nI_ltI, nI_leI, nI_eq] at h50; omega)
  | succ f ih =>
    intro j L hf haj hrun hL0 hL2 hL3 hL4 hL5 hR
    refine ev_il dK_oldItem_47 rfl (by first | assumption | rfl) ?_
    refine ev_il dK_oldItem_49 rfl (by first | assumption | rfl) ?_
    refine ev_icmp (tgt := 78) dK_oldItem_50 (by decide) (fun h50 => ?_) (fun h50 => ?_)
    · first | omega | (simp (disch := omega) only [zcond, nI_ltI, nI_leI, nI_eq] at h50; omega)
    · try simp (disch := omega) only [zcond, nI_ltI, nI_leI, nI_eq, zb0, Classical.not_not, Bool.not_eq_false, Bool.not_eq_true, Nat.not_lt, Nat.not_le] at h50
      refine ev_al dK_oldItem_53 rfl (by first | assumption | rfl) ?_
      refine ev_getrP dK_oldItem_54 fK_23 rfl (zq (q := 24) hP rfl) ?_
      refine ev_il dK_oldItem_57 rfl (by first | assumption | rfl) ?_
      refine ev_aldN dK_oldItem_59 rfl rfl (by omega) ?_
      rw [(hO j (by omega)).1]
      refine ev_il dK_oldItem_60 rfl (by first | assumption | rfl) ?_
      refine ev_sub dK_oldItem_62 ?_
      refine ev_il dK_oldItem_63 rfl (by first | assumption | rfl) ?_
      refine ev_il dK_oldItem_65 rfl (by first | assumption | rfl) ?_
      first | with_reducible refine ev_subN dK_oldItem_66 (by omega) ?_ | refine ev_sub dK_oldItem_66 ?_
      refine ev_icmp (tgt := 72) dK_oldItem_67 (by decide) (fun h67 => ?_) (fun h67 => ?_)
      · simp only [zcond] at h67
        refine ev_inc1 dK_oldItem_72 (by first | assumption | rfl) ?_
        refine ev_goto (tgt := 47) dK_oldItem_75 (by decide) ?_
        have he := (oV_dif (fun i hi => by have := (hO j (by omega)).2 i hi; omega) (by omega) (by omega) (by omega)).mp h67
        refine ih (j + 1) _ (by omega) (by omega) (fun i h1 h2 => ?_) (by first | assumption | rfl) (by first | assumption | rfl) (by first | assumption | rfl) (by first | assumption | rfl) rfl ?_
        · by_cases hij : i = j
          · subst hij; exact he
          · exact hrun i h1 (by omega)
        · rw [oRun, decide_eq_true he] at hR
          exact hR
      · simp only [zcond] at h67
        refine ev_const (v := -1) dK_oldItem_70 (by decide) ?_
        refine ev_ret dK_oldItem_71 rfl rfl ?_
        rw [oRun, decide_eq_false (fun he => h67 ((oV_dif (fun i hi => by have := (hO j (by omega)).2 i hi; omega) (by omega) (by omega) (by omega)).mpr he))] at hR
        exact hR
set_option maxRecDepth 100000 in
set_option maxHeartbeats 4000000 in
theorem c_oldItem {k : Nat} {c0 a z : Nat} {O : Nat → Option Nat} {fi0 la0 : Nat → Nat} (hP : M.2.1 = zP0 n b) (hn : zR n) (hb : zR b) (hz : a ≤ z ∧ z < 160) (hO : ∀ j, j ≤ z → M.1 24 j = oV (O j) ∧ ∀ i, O j = some i → i < 160) (hc0 : M.1 (b + 2) 5 = nI c0) (hc02 : c0 ≤ 160) (hfi0 : ∀ k, k < c0 → M.1 (b + 6) k = nI (fi0 k) ∧ M.1 (b + 7) k = nI (la0 k) ∧ fi0 k < 2 ^ 31 ∧ la0 k < 2 ^ 31) (hk : k < 160) (hfa : M.1 (n + 6) k = nI a) (hla : M.1 (n + 7) k = nI z) : Pu Lx xs (d + 1) mK_oldItem [.ref 0, .int (nI k)] M (oItem O fi0 la0 c0 a z) := by
  unfold Pu Ct
  refine ev_al dK_oldItem_0 rfl (by first | assumption | rfl) ?_
  refine ev_getrP dK_oldItem_1 fK_16 rfl (zq (q := n) hP rfl) ?_
  refine ev_getrP dK_oldItem_4 fK_76 (sh_R hn) (zq hP (pt_tree hn)) ?_
  refine ev_getrP dK_oldItem_7 fK_97 (sh_T hn) (zq hP (pt_firsts hn)) ?_
  refine ev_il dK_oldItem_10 rfl (by first | assumption | rfl) ?_
  refine ev_aldN dK_oldItem_11 rfl (sh_firsts hn) (by omega) ?_
  rw [hfa]
  refine ev_is dK_oldItem_12 rfl (Nat.le_of_ble_eq_true rfl) ?_
  refine ev_al dK_oldItem_13 rfl (by first | assumption | rfl) ?_
  refine ev_getrP dK_oldItem_14 fK_16 rfl (zq (q := n) hP rfl) ?_
  refine ev_getrP dK_oldItem_17 fK_76 (sh_R hn) (zq hP (pt_tree hn)) ?_
  refine ev_getrP dK_oldItem_20 fK_103 (sh_T hn) (zq hP (pt_lasts hn)) ?_
  refine ev_il dK_oldItem_23 rfl (by first | assumption | rfl) ?_
  refine ev_aldN dK_oldItem_24 rfl (sh_lasts hn) (by omega) ?_
  rw [hla]
  refine ev_is dK_oldItem_25 rfl (Nat.le_of_ble_eq_true rfl) ?_
  refine ev_al dK_oldItem_26 rfl (by first | assumption | rfl) ?_
  refine ev_getrP dK_oldItem_27 fK_23 rfl (zq (q := 24) hP rfl) ?_
  refine ev_il dK_oldItem_30 rfl (by first | assumption | rfl) ?_
  refine ev_aldN dK_oldItem_31 rfl rfl (by omega) ?_
  rw [(hO a hz.1).1]
  refine ev_is dK_oldItem_32 rfl (Nat.le_of_ble_eq_true rfl) ?_
  refine ev_il dK_oldItem_34 rfl (by first | assumption | rfl) ?_
  refine ev_const (v := -1) dK_oldItem_36 (by decide) ?_
  refine ev_icmp (tgt := 42) dK_oldItem_37 (by decide) (fun h37 => ?_) (fun h37 => ?_)
  · simp only [zcond, Classical.not_not] at h37
    refine ev_il dK_oldItem_42 rfl (by first | assumption | rfl) ?_
    refine ev_const (v := nI 1) dK_oldItem_43 (by decide) ?_
    first | with_reducible refine ev_addN dK_oldItem_44 ?_ | refine ev_add dK_oldItem_44 ?_
    refine ev_is dK_oldItem_45 rfl (Nat.le_of_ble_eq_true rfl) ?_
    cases hOa : O a with
    | none => rw [hOa] at h37; exact absurd rfl h37
    | some q =>
      refine l_oldItem hP hn hb hz hO hc0 hc02 hfi0 hOa (z - a) (a + 1) _ (by omega) (by omega) (fun i h1 h2 => absurd h1 (by omega)) rfl rfl rfl rfl rfl ?_
      unfold oItem
      rw [hOa]
      exact ⟨rfl, rfl⟩
  · simp only [zcond, Classical.not_not] at h37
    refine ev_const (v := -1) dK_oldItem_40 (by decide) ?_
    refine ev_ret dK_oldItem_41 rfl rfl ?_
    unfold oItem
    cases hOa : O a with
    | none => exact ⟨rfl, rfl⟩
    | some q => rw [hOa] at h37; exact absurd h37 (nI_ne1 (by have := (hO a hz.1).2 q hOa; omega))
/-- numbers are given: kept so far, given so far, the numbers -/
def nGo (oi num0 : Nat → Int32) : Nat → Nat → Nat × Nat × (Nat → Int32) → Nat × Nat × (Nat → Int32)
  | 0, _, x => x
  | f + 1, k, x => if oi k = -1 then nGo oi num0 f (k + 1) (x.1, x.2.1 + 1, upd x.2.2 k (nI x.2.1)) else nGo oi num0 f (k + 1) (x.1 + 1, x.2.1, upd x.2.2 k (num0 (oi k).toNatClampNeg))
def mN (M : zM) (n : Nat) (x : Nat × Nat × (Nat → Int32)) : zM := (fun a => if a = n + 10 then x.2.2 else if a = 0 then upd (upd (M.1 0) 5 (nI x.1)) 6 (nI x.2.1) else M.1 a, M.2)
theorem mN_o {x : Nat × Nat × (Nat → Int32)} {a i : Nat} (h : a ≠ n + 10) (h0 : a ≠ 0) : (mN M n x).1 a i = M.1 a i := by simp [mN, h, h0]
theorem mN_u {x : Nat × Nat × (Nat → Int32)} {i : Nat} : (mN M n x).1 (n + 10) i = x.2.2 i := by simp [mN]
theorem mN_5 {x : Nat × Nat × (Nat → Int32)} : (mN M n x).1 0 5 = nI x.1 := by simp [mN, upd]
theorem mN_6 {x : Nat × Nat × (Nat → Int32)} : (mN M n x).1 0 6 = nI x.2.1 := by simp [mN, upd]
theorem mN_0 {x : Nat × Nat × (Nat → Int32)} {i : Nat} (h5 : i ≠ 5) (h6 : i ≠ 6) : (mN M n x).1 0 i = M.1 0 i := by simp [mN, upd, h5, h6]
theorem mN_su {x : Nat × Nat × (Nat → Int32)} {k : Nat} {v : Int32} : zI (mN M n x) (n + 10) k v = mN M n (x.1, x.2.1, upd x.2.2 k v) := by
  refine zM_ext (fun a i => ?_) rfl
  rw [zI_at]
  by_cases h : a = n + 10
  · subst h; rw [mN_u, mN_u]; simp [upd]
  · rw [if_neg (fun hh => h hh.1)]
    simp only [mN, if_neg h]
theorem mN_s5 {x : Nat × Nat × (Nat → Int32)} {v : Nat} : zI (mN M n x) 0 5 (nI v) = mN M n (v, x.2.1, x.2.2) := by
  refine zM_ext (fun a i => ?_) rfl
  rw [zI_at]
  by_cases h : a = 0
  · subst h
    have h0 : ¬ (0 = n + 10) := by omega
    simp only [mN, if_neg h0, if_true, true_and, upd]
    (repeat' split) <;> first | rfl | (exfalso; omega)
  · rw [if_neg (fun hh => h hh.1)]
    simp only [mN, if_neg h]
theorem mN_s6 {x : Nat × Nat × (Nat → Int32)} {v : Nat} : zI (mN M n x) 0 6 (nI v) = mN M n (x.1, v, x.2.2) := by
  refine zM_ext (fun a i => ?_) rfl
  rw [zI_at]
  by_cases h : a = 0
  · subst h
    have h0 : ¬ (0 = n + 10) := by omega
    simp only [mN, if_neg h0, if_true, true_and, upd]
    (repeat' split) <;> first | rfl | (exfalso; omega)
  · rw [if_neg (fun hh => h hh.1)]
    simp only [mN, if_neg h]
set_option maxRecDepth 100000 in
set_option maxHeartbeats 4000000 in
theorem l_numberItems {c1 : Nat} {oi : Nat → Int32} (hP : M.2.1 = zP0 n b) (hn : zR n) (hb : zR b) (hnb : n ≠ b) (hc1 : M.1 (n + 2) 5 = nI c1) (hc12 : c1 ≤ 160) (hoi : ∀ d x k, k < c1 → Pu Lx xs (d + 1) mK_oldItem [.ref 0, .int (nI k)] (mN M n x) (oi k)) (hoi2 : ∀ k, k < c1 → oi k = -1 ∨ ∃ j, j < 160 ∧ oi k = nI j) {R : Option Int32 → zM → Prop} : ∀ (f k : Nat) (x : Nat × Nat × (Nat → Int32)) (L : Nat → Value), k + f = c1 → L 0 = .ref 0 → L 1 = .int (nI k) → R none (mN M n (nGo oi (M.1 (b + 10)) f k x)) → Ev Lx xs (d + 2) mK_numberItems 7 L [] (mN M n x) (zpost mK_numberItems R) := by
  have hnn : n ≠ 0 ∧ b ≠ 0 ∧ b + 10 ≠ n + 10 := by rcases hn with rfl | rfl <;> rcases hb with rfl | rfl <;> omega
  intro f
  induction f with
  | zero =>
    intro k x L hf hL0 hL1 hR
    refine ev_il dK_numberItems_7 rfl (by first | assumption | rfl) ?_
    refine ev_al dK_numberItems_8 rfl (by first | assumption | rfl) ?_
    refine ev_getrP dK_numberItems_9 fK_16 rfl (zq (q := n) hP rfl) ?_
    refine ev_getrP dK_numberItems_12 fK_76 (sh_R hn) (zq hP (pt_tree hn)) ?_
    refine ev_geti dK_numberItems_15 fK_80 (sh_T hn) ?_
    rw [mN_o (by omega) (by omega), hc1]
    refine ev_icmp (tgt := 101) dK_numberItems_18 (by decide) (fun h18 => ?_) (fun h18 => ?_)
    · try simp (disch := omega) only [zcond, nI_ltI, nI_leI, nI_eq, zb0, Classical.not_not, Bool.not_eq_false, Bool.not_eq_true, Nat.not_lt, Nat.not_le] at h18
      refine ev_vret dK_numberItems_101 rfl ?_
      exact hR
    · first | omega | (simp (disch := omega) only [zcond, nI_ltI, nI_leI, nI_eq] at h18; omega)
  | succ f ih =>
    intro k x L hf hL0 hL1 hR
    refine ev_il dK_numberItems_7 rfl (by first | assumption | rfl) ?_
    refine ev_al dK_numberItems_8 rfl (by first | assumption | rfl) ?_
    refine ev_getrP dK_numberItems_9 fK_16 rfl (zq (q := n) hP rfl) ?_
    refine ev_getrP dK_numberItems_12 fK_76 (sh_R hn) (zq hP (pt_tree hn)) ?_
    refine ev_geti dK_numberItems_15 fK_80 (sh_T hn) ?_
    rw [mN_o (by omega) (by omega), hc1]
    refine ev_icmp (tgt := 101) dK_numberItems_18 (by decide) (fun h18 => ?_) (fun h18 => ?_)
    · first | omega | (simp (disch := omega) only [zcond, nI_ltI, nI_leI, nI_eq] at h18; omega)
    · try simp (disch := omega) only [zcond, nI_ltI, nI_leI, nI_eq, zb0, Classical.not_not, Bool.not_eq_false, Bool.not_eq_true, Nat.not_lt, Nat.not_le] at h18
      refine ev_al dK_numberItems_21 rfl (by first | assumption | rfl) ?_
      refine ev_il dK_numberItems_22 rfl (by first | assumption | rfl) ?_
      refine ev_pV dK_numberItems_23 (hoi _ x k (by omega)) lK_124 rec_K rfl (Nat.le_of_ble_eq_true rfl) rfl (Nat.le_of_ble_eq_true rfl) ?_
      refine ev_is dK_numberItems_26 rfl (Nat.le_of_ble_eq_true rfl) ?_
      have hoik := hoi2 k (by omega)
      refine ev_il dK_numberItems_27 rfl (by first | assumption | rfl) ?_
      refine ev_const (v := -1) dK_numberItems_28 (by decide) ?_
      refine ev_icmp (tgt := 61) dK_numberItems_29 (by decide) (fun h29 => ?_) (fun h29 => ?_)
      · simp only [zcond, Classical.not_not] at h29
        refine ev_al dK_numberItems_61 rfl (by first | assumption | rfl) ?_
        refine ev_getrP dK_numberItems_62 fK_16 rfl (zq (q := n) hP rfl) ?_
        refine ev_getrP dK_numberItems_65 fK_76 (sh_R hn) (zq hP (pt_tree hn)) ?_
        refine ev_getrP dK_numberItems_68 fK_90 (sh_T hn) (zq hP (pt_numbers hn)) ?_
        refine ev_il dK_numberItems_71 rfl (by first | assumption | rfl) ?_
        refine ev_al dK_numberItems_72 rfl (by first | assumption | rfl) ?_
        refine ev_getrP dK_numberItems_73 fK_20 rfl (zq (q := b) hP rfl) ?_
        refine ev_getrP dK_numberItems_76 fK_76 (sh_R hb) (zq hP (pt_tree hb)) ?_
        refine ev_getrP dK_numberItems_79 fK_90 (sh_T hb) (zq hP (pt_numbers hb)) ?_
        refine ev_il dK_numberItems_82 rfl (by first | assumption | rfl) ?_
        rcases hoik with hoik | ⟨j, hj, hoik⟩
        · exact absurd hoik h29
        rw [hoik]
        refine ev_aldN dK_numberItems_83 rfl (sh_numbers hb) (by omega) ?_
        rw [mN_o (by omega) (by omega)]
        refine ev_iastN dK_numberItems_84 (sh_numbers hn) (by omega) ?_
        refine ev_mem (M' := mN M n (x.1, x.2.1, upd x.2.2 k (M.1 (b + 10) j))) mN_su ?_
        refine ev_al dK_numberItems_85 rfl (by first | assumption | rfl) ?_
        refine ev_stk dK_numberItems_86 rfl ?_
        refine ev_geti dK_numberItems_87 fK_83 rfl ?_
        rw [mN_5]
        refine ev_const (v := nI 1) dK_numberItems_90 (by decide) ?_
        first | with_reducible refine ev_addN dK_numberItems_91 ?_ | refine ev_add dK_numberItems_91 ?_
        refine ev_puti dK_numberItems_92 fK_83 fwK_keptItems rfl (vp_nar_int _) rfl ?_
        try refine ev_mem (M' := mN M n (x.1 + 1, x.2.1, upd x.2.2 k (M.1 (b + 10) j))) mN_s5 ?_
        refine ev_inc1 dK_numberItems_95 (by first | assumption | rfl) ?_
        refine ev_goto (tgt := 7) dK_numberItems_98 (by decide) ?_
        first
        | (refine ih (k + 1) _ _ (by omega) (by first | assumption | rfl) rfl ?_
           rw [nGo, if_pos h29] at hR
           exact hR)
        | (refine ih (k + 1) _ _ (by omega) (by first | assumption | rfl) rfl ?_
           rw [nGo, if_neg h29, hoik, nI_clamp (by omega)] at hR
           exact hR)
      · simp only [zcond, Classical.not_not] at h29
        refine ev_al dK_numberItems_32 rfl (by first | assumption | rfl) ?_
        refine ev_getrP dK_numberItems_33 fK_16 rfl (zq (q := n) hP rfl) ?_
        refine ev_getrP dK_numberItems_36 fK_76 (sh_R hn) (zq hP (pt_tree hn)) ?_
        refine ev_getrP dK_numberItems_39 fK_90 (sh_T hn) (zq hP (pt_numbers hn)) ?_
        refine ev_il dK_numberItems_42 rfl (by first | assumption | rfl) ?_
        refine ev_al dK_numberItems_43 rfl (by first | assumption | rfl) ?_
        refine ev_geti dK_numberItems_44 fK_127 rfl ?_
        rw [mN_6]
        refine ev_iastN dK_numberItems_47 (sh_numbers hn) (by omega) ?_
        refine ev_mem (M' := mN M n (x.1, x.2.1, upd x.2.2 k (nI x.2.1))) mN_su ?_
        refine ev_al dK_numberItems_48 rfl (by first | assumption | rfl) ?_
        refine ev_stk dK_numberItems_49 rfl ?_
        refine ev_geti dK_numberItems_50 fK_127 rfl ?_
        rw [mN_6]
        refine ev_const (v := nI 1) dK_numberItems_53 (by decide) ?_
        first | with_reducible refine ev_addN dK_numberItems_54 ?_ | refine ev_add dK_numberItems_54 ?_
        refine ev_puti dK_numberItems_55 fK_127 fwK_numbersGiven rfl (vp_nar_int _) rfl ?_
        refine ev_mem (M' := mN M n (x.1, x.2.1 + 1, upd x.2.2 k (nI x.2.1))) mN_s6 ?_
        refine ev_goto (tgt := 95) dK_numberItems_58 (by decide) ?_
        try refine ev_mem (M' := mN M n (x.1 + 1, x.2.1, upd x.2.2 k (M.1 (b + 10) j))) mN_s5 ?_
        refine ev_inc1 dK_numberItems_95 (by first | assumption | rfl) ?_
        refine ev_goto (tgt := 7) dK_numberItems_98 (by decide) ?_
        first
        | (refine ih (k + 1) _ _ (by omega) (by first | assumption | rfl) rfl ?_
           rw [nGo, if_pos h29] at hR
           exact hR)
        | (refine ih (k + 1) _ _ (by omega) (by first | assumption | rfl) rfl ?_
           rw [nGo, if_neg h29, hoik, nI_clamp (by omega)] at hR
           exact hR)
set_option maxRecDepth 100000 in
set_option maxHeartbeats 4000000 in
theorem c_numberItems {c1 gi : Nat} {oi : Nat → Int32} (hP : M.2.1 = zP0 n b) (hn : zR n) (hb : zR b) (hnb : n ≠ b) (hc1 : M.1 (n + 2) 5 = nI c1) (hc12 : c1 ≤ 160) (hgi : M.1 0 6 = nI gi) (hoi : ∀ d x k, k < c1 → Pu Lx xs (d + 1) mK_oldItem [.ref 0, .int (nI k)] (mN M n x) (oi k)) (hoi2 : ∀ k, k < c1 → oi k = -1 ∨ ∃ j, j < 160 ∧ oi k = nI j) : Ct Lx xs (d + 2) mK_numberItems [.ref 0] M (fun q M' => q = none ∧ M' = mN M n (nGo oi (M.1 (b + 10)) c1 0 (0, gi, M.1 (n + 10)))) := by
  unfold Ct
  refine ev_al dK_numberItems_0 rfl (by first | assumption | rfl) ?_
  refine ev_const (v := nI 0) dK_numberItems_1 (by decide) ?_
  refine ev_puti dK_numberItems_2 fK_83 fwK_keptItems rfl (vp_nar_int _) rfl ?_
  refine ev_const (v := nI 0) dK_numberItems_5 (by decide) ?_
  refine ev_is dK_numberItems_6 rfl (Nat.le_of_ble_eq_true rfl) ?_
  refine ev_mem (M' := mN M n (0, gi, M.1 (n + 10))) ?_ (l_numberItems hP hn hb hnb hc1 hc12 hoi hoi2 c1 0 _ _ (by omega) rfl rfl ⟨rfl, rfl⟩)
  refine zM_ext (fun a i => ?_) rfl
  rw [zI_at]
  by_cases h : a = n + 10
  · subst h; rw [mN_u, if_neg (by omega)]
  · by_cases h0 : a = 0
    · subst h0
      by_cases h5 : i = 5
      · subst h5; rw [mN_5, if_pos ⟨rfl, rfl⟩]
      · by_cases h6 : i = 6
        · subst h6; rw [mN_6, if_neg (by omega)]; exact hgi
        · rw [mN_0 h5 h6, if_neg (by omega)]
    · rw [mN_o h h0, if_neg (by omega)]
end
