/- the reference: items, names, what is behind a factor (rows laid by program) -/
def aItem (c k : Nat) (q : Nat × List Nat) (B : aB) : Option ((Nat × List Nat) × aB) :=
  if c = 97 then some ((1, q.2), aBeg B k 0)
  else if c = 123 ∧ q.2.length ≠ 12 then some ((q.1, 1 :: q.2), aBl (aBeg B k 1) (B.1.2.1 :: B.1.1))
  else if c = 125 ∧ aTop q.2 = 1 then some ((0, q.2.tail), aFin (aBl B B.1.1.tail) q.2.tail.length (B.1.1.headD 0) k)
  else none
def aNam (c : Nat) (q : Nat × List Nat) (B : aB) : Option ((Nat × List Nat) × aB) :=
  if c = 61 then some ((2, q.2), aDf B) else if c = 40 ∧ q.2.length ≠ 12 then some ((3, 5 :: q.2), B) else none
def aBeh (c k : Nat) (q : Nat × List Nat) (B : aB) : Option ((Nat × List Nat) × aB) :=
  if c = 43 ∨ c = 45 ∨ c = 42 ∨ (c = 44 ∧ aIn q.2 = true ∧ aTop q.2 ≠ 2) then some ((2, q.2), B)
  else if c = 41 ∧ aIn q.2 = true then some (aClo q.2, B)
  else if c = 59 ∧ aIn q.2 = false then some ((0, q.2), aFin B q.2.length B.1.2.2.2 k)
  else none
/-- what holds between the state's parts -/
def aOk (q : Nat × List Nat) (B : aB) : Prop := B.1.2.1 < 160 ∧ B.1.1.length ≤ 12 ∧ B.1.2.2.2 < 160 ∧ (aTop q.2 = 1 → ∃ x bl, B.1.1 = x :: bl ∧ x < 160)
section
variable {Lx : Nat} {xs : Nat → Int32} {d : Nat} {M : zM} {n b : Nat}
theorem AQ.keep {M' : zM} {q : Nat × List Nat} (h : AQ M q) (h1 : M'.1 25 32 = M.1 25 32) (h2 : M'.1 25 30 = M.1 25 30) (h3 : ∀ i, M'.1 45 i = M.1 45 i) : AQ M' q :=
  ⟨h1.trans h.1, h2.trans h.2.1, h.2.2.1, fun i hi => (h3 i).trans (h.2.2.2.1 i hi), h.2.2.2.2⟩
theorem aTop_cons {q : Nat × List Nat} {x : Nat} (h : aTop q.2 = x) (hx : x ≠ 0) : ∃ o, q = (q.1, x :: o) := by
  obtain ⟨a, o⟩ := q
  cases o with
  | nil => exact absurd h (fun hh => hx (by rw [← hh]; rfl))
  | cons y o => have : y = x := h; subst this; exact ⟨o, rfl⟩
theorem aIn_cons {q : Nat × List Nat} (h : aIn q.2 = true) : ∃ x o, q = (q.1, x :: o) := by
  obtain ⟨a, o⟩ := q
  cases o with
  | nil => simp [aIn, aTop] at h
  | cons y o => exact ⟨y, o, rfl⟩
set_option maxRecDepth 100000 in
set_option maxHeartbeats 4000000 in
theorem r_readItem {e k : Nat} {t : Nat → Nat} {ts : List (Nat × Nat × Nat)} {q : Nat × List Nat} {B : aB} (hP : M.2.1 = zP0 n b) (hk : MTk M e t ts) (hk2 : k < ts.length) (hq : AQ M q) (hB : AB M B) (hO : aOk q B) : Ct Lx xs (d + 2) mM_readItem [.ref 25, .int (nI k)] M (rB M B (aItem (tMk t ts k) k q B)) := by
  unfold Ct
  have he := hk.1.2.1
  have hlen := hk.2.2.1.2.1
  obtain ⟨hq1, hq2, hq3⟩ := hk.2.1.2 k _ (tk_at hk2)
  have hkd : (tk ts k).2.2 < 5 := by have := hk.2.2.1.2.2.1 k _ (tk_at hk2); omega
  have hsg := hk.2.2.2 k hk2
  obtain ⟨hO1, hO2, hO3, hO4⟩ := hO
  have hql := hq.2.2.1
  have htop6 : aTop q.2 < 6 := by
    obtain ⟨a, l⟩ := q
    cases l with
    | nil => exact (by decide : 0 < 6)
    | cons y l => exact hq.2.2.2.2 y List.mem_cons_self
  refine ev_al dM_readItem_0 rfl (by first | assumption | rfl) ?_
  refine ev_getrP dM_readItem_1 fM_23 rfl (zq (q := 30) hP rfl) ?_
  refine ev_il dM_readItem_4 rfl (by first | assumption | rfl) ?_
  refine ev_aldN dM_readItem_5 rfl rfl (by omega) ?_
  rw [hq3]
  refine ev_if0 (tgt := 22) dM_readItem_6 (by decide) (fun h6 => ?_) (fun h6 => ?_)
  · simp (disch := omega) only [zcond, nI_eq, Classical.not_not] at h6
    rw [tMk_kind (m := 97) (by omega) hkd hsg] at h6
    refine ev_al dM_readItem_22 rfl (by first | assumption | rfl) ?_
    refine ev_il dM_readItem_23 rfl (by first | assumption | rfl) ?_
    refine ev_const (v := nI 123) dM_readItem_24 (by decide) ?_
    refine ev_pV dM_readItem_26 (r_is (M := M) hP hk hk2 (by decide)) lM_153 rec_M rfl (Nat.le_of_ble_eq_true rfl) rfl (Nat.le_of_ble_eq_true rfl) ?_
    refine ev_if0 (tgt := 73) dM_readItem_29 (by decide) (fun h29 => ?_) (fun h29 => ?_)
    · simp only [zcond, zb0, Classical.not_not, Bool.not_eq_false, Bool.not_eq_true, decide_eq_true_eq, decide_eq_false_iff_not] at h29
      refine ev_al dM_readItem_73 rfl (by first | assumption | rfl) ?_
      refine ev_il dM_readItem_74 rfl (by first | assumption | rfl) ?_
      refine ev_const (v := nI 125) dM_readItem_75 (by decide) ?_
      refine ev_pV dM_readItem_77 (r_is (M := M) hP hk hk2 (by decide)) lM_153 rec_M rfl (Nat.le_of_ble_eq_true rfl) rfl (Nat.le_of_ble_eq_true rfl) ?_
      refine ev_if0 (tgt := 127) dM_readItem_80 (by decide) (fun h80 => ?_) (fun h80 => ?_)
      · simp only [zcond, zb0, Classical.not_not, Bool.not_eq_false, Bool.not_eq_true, decide_eq_true_eq, decide_eq_false_iff_not] at h80
        refine ev_const (v := nI 0) dM_readItem_127 (by decide) ?_
        refine ev_ret dM_readItem_128 rfl rfl ?_
        refine rB_n (zSame.rf _ _) hB ?_
        unfold aItem
        have g1 : ¬ (tMk t ts k = 123 ∧ q.2.length ≠ 12) := by first | exact fun h => h29 h.1 | exact fun h => h.2 h12
        have g2 : ¬ (tMk t ts k = 125 ∧ aTop q.2 = 1) := by first | exact fun h => h80 h.1 | exact fun h => h88 h.2
        rw [if_neg h6, if_neg g1, if_neg g2]
      · simp only [zcond, zb0, Classical.not_not, Bool.not_eq_false, Bool.not_eq_true, decide_eq_true_eq, decide_eq_false_iff_not] at h80
        refine ev_al dM_readItem_83 rfl (by first | assumption | rfl) ?_
        refine ev_pV dM_readItem_84 (r_top hP hq) lM_130 rec_M rfl (Nat.le_of_ble_eq_true rfl) rfl (Nat.le_of_ble_eq_true rfl) ?_
        refine ev_const (v := nI 1) dM_readItem_87 (by decide) ?_
        refine ev_icmp (tgt := 127) dM_readItem_88 (by decide) (fun h88 => ?_) (fun h88 => ?_)
        · simp (disch := omega) only [zcond, nI_eq, Classical.not_not] at h88
          refine ev_const (v := nI 0) dM_readItem_127 (by decide) ?_
          refine ev_ret dM_readItem_128 rfl rfl ?_
          refine rB_n (zSame.rf _ _) hB ?_
          unfold aItem
          have g1 : ¬ (tMk t ts k = 123 ∧ q.2.length ≠ 12) := by first | exact fun h => h29 h.1 | exact fun h => h.2 h12
          have g2 : ¬ (tMk t ts k = 125 ∧ aTop q.2 = 1) := by first | exact fun h => h80 h.1 | exact fun h => h88 h.2
          rw [if_neg h6, if_neg g1, if_neg g2]
        · simp (disch := omega) only [zcond, nI_eq, Classical.not_not] at h88
          obtain ⟨o, ho⟩ := aTop_cons h88 (by decide)
          obtain ⟨x, bl, hbl, hx⟩ := hO4 h88
          have hqo : q.2 = 1 :: o := by rw [ho]
          have hq' : AQ M (q.1, 1 :: o) := by rw [← ho]; exact hq
          have hol : o.length + 1 ≤ 12 := hq'.2.2.1
          have hB3 := hB.op (x := nI o.length)
          have hB4 := hB3.bpop hbl
          refine ev_al dM_readItem_91 rfl (by first | assumption | rfl) ?_
          refine ev_stk dM_readItem_92 rfl ?_
          refine ev_geti dM_readItem_93 fM_127 rfl ?_
          rw [show M.1 25 30 = nI (o.length + 1) from hq'.2.1]
          refine ev_const (v := nI 1) dM_readItem_96 (by decide) ?_
          first | with_reducible refine ev_subN dM_readItem_97 (by omega) ?_ | refine ev_sub dM_readItem_97 ?_
          refine ev_puti dM_readItem_98 fM_127 fwM_open rfl (vp_nar_int _) rfl ?_
          refine ev_mem (M' := zI M 25 30 (nI o.length)) (by rw [show o.length + 1 - 1 = o.length by omega]) ?_
          refine ev_al dM_readItem_101 rfl (by first | assumption | rfl) ?_
          refine ev_stk dM_readItem_102 rfl ?_
          refine ev_geti dM_readItem_103 fM_140 rfl ?_
          rw [show (zI M 25 30 (nI o.length)).1 25 33 = nI (bl.length + 1) from hB3.1.trans (by rw [hbl]; rfl)]
          refine ev_const (v := nI 1) dM_readItem_106 (by decide) ?_
          first | with_reducible refine ev_subN dM_readItem_107 (by omega) ?_ | refine ev_sub dM_readItem_107 ?_
          refine ev_puti dM_readItem_108 fM_140 fwM_blocks rfl (vp_nar_int _) rfl ?_
          refine ev_mem (M' := zI (zI M 25 30 (nI o.length)) 25 33 (nI bl.length)) (by rw [show bl.length + 1 - 1 = bl.length by omega]) ?_
          refine ev_al dM_readItem_111 rfl (by first | assumption | rfl) ?_
          refine ev_al dM_readItem_112 rfl (by first | assumption | rfl) ?_
          refine ev_getrP dM_readItem_113 fM_76 rfl (zq (q := 46) hP rfl) ?_
          refine ev_al dM_readItem_116 rfl (by first | assumption | rfl) ?_
          refine ev_geti dM_readItem_117 fM_140 rfl ?_
          rw [zI_s]
          refine ev_aldN dM_readItem_120 rfl rfl (by rw [hbl] at hO2; simp at hO2; omega) ?_
          rw [show (zI (zI M 25 30 (nI o.length)) 25 33 (nI bl.length)).1 46 bl.length = nI x from (zI_o (by omega)).trans hB4.2]
          refine ev_il dM_readItem_121 rfl (by first | assumption | rfl) ?_
          refine ev_cV dM_readItem_122 (r_finish (M := zI (zI M 25 30 (nI o.length)) 25 33 (nI bl.length)) (j := x) (k := k) (q := o.length) hP hx (by rw [zI_k (by omega), zI_s]) (by omega) hB4.1.2.2.1 hB4.1.2.2.2.1) lM_161 rec_M rfl (Nat.le_of_ble_eq_true rfl) rfl (Nat.le_of_ble_eq_true rfl) (fun z M5 hz => ?_)
          obtain ⟨rfl, hM5⟩ := hz
          refine ev_const (v := nI 1) dM_readItem_125 (by decide) ?_
          refine ev_ret dM_readItem_126 rfl rfl ?_
          rw [hM5]
          refine rB_y (x := ((0, o), aFin (aBl B bl) o.length x k)) ((((((zSame.rf sAB M).I (by unfold sAB; omega)).I (by unfold sAB; omega)).I (by unfold sAB; omega)).I (by unfold sAB; omega)).I (by unfold sAB; omega)) ?_ ?_ ?_
          · exact (hq'.pop.st (x := 0)).keep (by simp [zI_at]) (by simp [zI_at]) (fun i => by simp [zI_at])
          · exact hB4.1.fin
          · unfold aItem
            have g1 : ¬ (tMk t ts k = 123 ∧ q.2.length ≠ 12) := fun h => by omega
            rw [if_neg h6, if_neg g1, if_pos (And.intro h80 h88), hqo, hbl]; rfl
    · simp only [zcond, zb0, Classical.not_not, Bool.not_eq_false, Bool.not_eq_true, decide_eq_true_eq, decide_eq_false_iff_not] at h29
      refine ev_al dM_readItem_32 rfl (by first | assumption | rfl) ?_
      refine ev_const (v := nI 1) dM_readItem_33 (by decide) ?_
      by_cases h12 : q.2.length = 12
      · refine ev_pV dM_readItem_34 (r_push_n (M := M) hP hq h12) lM_157 rec_M rfl (Nat.le_of_ble_eq_true rfl) rfl (Nat.le_of_ble_eq_true rfl) ?_
        refine ev_if0 (tgt := 73) dM_readItem_37 (by decide) (fun h37 => ?_) (fun h37 => ?_)
        · try simp (disch := omega) only [zcond, nI_ltI, nI_leI, nI_eq, zb0, Classical.not_not, Bool.not_eq_false, Bool.not_eq_true, Nat.not_lt, Nat.not_le] at h37
          refine ev_al dM_readItem_73 rfl (by first | assumption | rfl) ?_
          refine ev_il dM_readItem_74 rfl (by first | assumption | rfl) ?_
          refine ev_const (v := nI 125) dM_readItem_75 (by decide) ?_
          refine ev_pV dM_readItem_77 (r_is (M := M) hP hk hk2 (by decide)) lM_153 rec_M rfl (Nat.le_of_ble_eq_true rfl) rfl (Nat.le_of_ble_eq_true rfl) ?_
          refine ev_if0 (tgt := 127) dM_readItem_80 (by decide) (fun h80 => ?_) (fun h80 => ?_)
          · simp only [zcond, zb0, Classical.not_not, Bool.not_eq_false, Bool.not_eq_true, decide_eq_true_eq, decide_eq_false_iff_not] at h80
            refine ev_const (v := nI 0) dM_readItem_127 (by decide) ?_
            refine ev_ret dM_readItem_128 rfl rfl ?_
            refine rB_n (zSame.rf _ _) hB ?_
            unfold aItem
            have g1 : ¬ (tMk t ts k = 123 ∧ q.2.length ≠ 12) := by first | exact fun h => h29 h.1 | exact fun h => h.2 h12
            have g2 : ¬ (tMk t ts k = 125 ∧ aTop q.2 = 1) := by first | exact fun h => h80 h.1 | exact fun h => h88 h.2
            rw [if_neg h6, if_neg g1, if_neg g2]
          · simp only [zcond, zb0, Classical.not_not, Bool.not_eq_false, Bool.not_eq_true, decide_eq_true_eq, decide_eq_false_iff_not] at h80
            refine ev_al dM_readItem_83 rfl (by first | assumption | rfl) ?_
            refine ev_pV dM_readItem_84 (r_top hP hq) lM_130 rec_M rfl (Nat.le_of_ble_eq_true rfl) rfl (Nat.le_of_ble_eq_true rfl) ?_
            refine ev_const (v := nI 1) dM_readItem_87 (by decide) ?_
            refine ev_icmp (tgt := 127) dM_readItem_88 (by decide) (fun h88 => ?_) (fun h88 => ?_)
            · simp (disch := omega) only [zcond, nI_eq, Classical.not_not] at h88
              refine ev_const (v := nI 0) dM_readItem_127 (by decide) ?_
              refine ev_ret dM_readItem_128 rfl rfl ?_
              refine rB_n (zSame.rf _ _) hB ?_
              unfold aItem
              have g1 : ¬ (tMk t ts k = 123 ∧ q.2.length ≠ 12) := by first | exact fun h => h29 h.1 | exact fun h => h.2 h12
              have g2 : ¬ (tMk t ts k = 125 ∧ aTop q.2 = 1) := by first | exact fun h => h80 h.1 | exact fun h => h88 h.2
              rw [if_neg h6, if_neg g1, if_neg g2]
            · simp (disch := omega) only [zcond, nI_eq, Classical.not_not] at h88
              obtain ⟨o, ho⟩ := aTop_cons h88 (by decide)
              obtain ⟨x, bl, hbl, hx⟩ := hO4 h88
              have hqo : q.2 = 1 :: o := by rw [ho]
              have hq' : AQ M (q.1, 1 :: o) := by rw [← ho]; exact hq
              have hol : o.length + 1 ≤ 12 := hq'.2.2.1
              have hB3 := hB.op (x := nI o.length)
              have hB4 := hB3.bpop hbl
              refine ev_al dM_readItem_91 rfl (by first | assumption | rfl) ?_
              refine ev_stk dM_readItem_92 rfl ?_
              refine ev_geti dM_readItem_93 fM_127 rfl ?_
              rw [show M.1 25 30 = nI (o.length + 1) from hq'.2.1]
              refine ev_const (v := nI 1) dM_readItem_96 (by decide) ?_
              first | with_reducible refine ev_subN dM_readItem_97 (by omega) ?_ | refine ev_sub dM_readItem_97 ?_
              refine ev_puti dM_readItem_98 fM_127 fwM_open rfl (vp_nar_int _) rfl ?_
              refine ev_mem (M' := zI M 25 30 (nI o.length)) (by rw [show o.length + 1 - 1 = o.length by omega]) ?_
              refine ev_al dM_readItem_101 rfl (by first | assumption | rfl) ?_
              refine ev_stk dM_readItem_102 rfl ?_
              refine ev_geti dM_readItem_103 fM_140 rfl ?_
              rw [show (zI M 25 30 (nI o.length)).1 25 33 = nI (bl.length + 1) from hB3.1.trans (by rw [hbl]; rfl)]
              refine ev_const (v := nI 1) dM_readItem_106 (by decide) ?_
              first | with_reducible refine ev_subN dM_readItem_107 (by omega) ?_ | refine ev_sub dM_readItem_107 ?_
              refine ev_puti dM_readItem_108 fM_140 fwM_blocks rfl (vp_nar_int _) rfl ?_
              refine ev_mem (M' := zI (zI M 25 30 (nI o.length)) 25 33 (nI bl.length)) (by rw [show bl.length + 1 - 1 = bl.length by omega]) ?_
              refine ev_al dM_readItem_111 rfl (by first | assumption | rfl) ?_
              refine ev_al dM_readItem_112 rfl (by first | assumption | rfl) ?_
              refine ev_getrP dM_readItem_113 fM_76 rfl (zq (q := 46) hP rfl) ?_
              refine ev_al dM_readItem_116 rfl (by first | assumption | rfl) ?_
              refine ev_geti dM_readItem_117 fM_140 rfl ?_
              rw [zI_s]
              refine ev_aldN dM_readItem_120 rfl rfl (by rw [hbl] at hO2; simp at hO2; omega) ?_
              rw [show (zI (zI M 25 30 (nI o.length)) 25 33 (nI bl.length)).1 46 bl.length = nI x from (zI_o (by omega)).trans hB4.2]
              refine ev_il dM_readItem_121 rfl (by first | assumption | rfl) ?_
              refine ev_cV dM_readItem_122 (r_finish (M := zI (zI M 25 30 (nI o.length)) 25 33 (nI bl.length)) (j := x) (k := k) (q := o.length) hP hx (by rw [zI_k (by omega), zI_s]) (by omega) hB4.1.2.2.1 hB4.1.2.2.2.1) lM_161 rec_M rfl (Nat.le_of_ble_eq_true rfl) rfl (Nat.le_of_ble_eq_true rfl) (fun z M5 hz => ?_)
              obtain ⟨rfl, hM5⟩ := hz
              refine ev_const (v := nI 1) dM_readItem_125 (by decide) ?_
              refine ev_ret dM_readItem_126 rfl rfl ?_
              rw [hM5]
              refine rB_y (x := ((0, o), aFin (aBl B bl) o.length x k)) ((((((zSame.rf sAB M).I (by unfold sAB; omega)).I (by unfold sAB; omega)).I (by unfold sAB; omega)).I (by unfold sAB; omega)).I (by unfold sAB; omega)) ?_ ?_ ?_
              · exact (hq'.pop.st (x := 0)).keep (by simp [zI_at]) (by simp [zI_at]) (fun i => by simp [zI_at])
              · exact hB4.1.fin
              · unfold aItem
                have g1 : ¬ (tMk t ts k = 123 ∧ q.2.length ≠ 12) := fun h => by omega
                rw [if_neg h6, if_neg g1, if_pos (And.intro h80 h88), hqo, hbl]; rfl
        · exact absurd (show nI 0 = nI 0 from rfl) h37
      · refine ev_cV dM_readItem_34 (r_push_y (M := M) (x := 1) hP hq h12) lM_157 rec_M rfl (Nat.le_of_ble_eq_true rfl) rfl (Nat.le_of_ble_eq_true rfl) (fun z M1 hz => ?_)
        obtain ⟨rfl, hM1⟩ := hz
        refine ev_if0 (tgt := 73) dM_readItem_37 (by decide) (fun h37 => ?_) (fun h37 => ?_)
        · exact absurd h37 (show ¬ nI 1 = nI 0 by decide)
        · try simp (disch := omega) only [zcond, nI_ltI, nI_leI, nI_eq, zb0, Classical.not_not, Bool.not_eq_false, Bool.not_eq_true, Nat.not_lt, Nat.not_le] at h37
          refine ev_al dM_readItem_40 rfl (by first | assumption | rfl) ?_
          refine ev_il dM_readItem_41 rfl (by first | assumption | rfl) ?_
          refine ev_const (v := nI 1) dM_readItem_42 (by decide) ?_
          have hP1 : M1.2.1 = zP0 n b := by rw [hM1]; exact hP
          have hA1 : AQ M1 (q.1, 1 :: q.2) := by rw [hM1]; exact hq.push h12 (by decide)
          have hB1 : AB M1 B := by rw [hM1]; exact (((zSame.rf sAQ M).I (Or.inr rfl)).I (Or.inl ⟨rfl, Or.inl rfl⟩)).AB hB
          have hs1 : zSame sAB M M1 := by rw [hM1]; exact (((zSame.rf sAQ M).I (Or.inr rfl)).I (Or.inl ⟨rfl, Or.inl rfl⟩)).up
          have hP := hP1
          refine ev_cV dM_readItem_43 (r_start (M := M1) (k := k) (br := 1) hP hB1.2.2.1 hO1 hB1.1 (by decide)) lM_149 rec_M rfl (Nat.le_of_ble_eq_true rfl) rfl (Nat.le_of_ble_eq_true rfl) (fun z M2 hz => ?_)
          obtain ⟨rfl, hM2⟩ := hz
          have hP2 : M2.2.1 = zP0 n b := by rw [hM2]; exact hP
          have hA2 : AQ M2 (q.1, 1 :: q.2) := hA1.keep (by rw [hM2]; simp [zI_at]) (by rw [hM2]; simp [zI_at]) (fun i => by rw [hM2]; simp [zI_at])
          have hB2 : AB M2 (aBeg B k 1) := by rw [hM2]; exact hB1.beg
          have hs2 : zSame sAB M1 M2 := by rw [hM2]; exact (((((((zSame.rf sAB M1).I (by unfold sAB; omega)).I (by unfold sAB; omega)).I (by unfold sAB; omega)).I (by unfold sAB; omega)).I (by unfold sAB; omega)).I (by unfold sAB; omega)).I (by unfold sAB; omega)
          have hP := hP2
          refine ev_al dM_readItem_46 rfl (by first | assumption | rfl) ?_
          refine ev_getrP dM_readItem_47 fM_76 rfl (zq (q := 46) hP rfl) ?_
          refine ev_al dM_readItem_50 rfl (by first | assumption | rfl) ?_
          refine ev_geti dM_readItem_51 fM_140 rfl ?_
          rw [hB2.1]
          refine ev_al dM_readItem_54 rfl (by first | assumption | rfl) ?_
          refine ev_geti dM_readItem_55 fM_137 rfl ?_
          rw [hB2.2.2.1]
          show Ev _ _ _ _ _ _ (.int (nI (B.1.2.1 + 1)) :: _) _ _
          refine ev_const (v := nI 1) dM_readItem_58 (by decide) ?_
          first | with_reducible refine ev_subN dM_readItem_59 (by omega) ?_ | refine ev_sub dM_readItem_59 ?_
          rw [show B.1.2.1 + 1 - 1 = B.1.2.1 by omega]
          show Ev _ _ _ _ _ _ (_ :: .int (nI B.1.1.length) :: _) _ _
          refine ev_iastN dM_readItem_60 rfl (by omega) ?_
          refine ev_al dM_readItem_61 rfl (by first | assumption | rfl) ?_
          refine ev_stk dM_readItem_62 rfl ?_
          refine ev_geti dM_readItem_63 fM_140 rfl ?_
          rw [show (zI M2 46 B.1.1.length (nI B.1.2.1)).1 25 33 = nI B.1.1.length from (zI_o (by omega)).trans hB2.1]
          refine ev_const (v := nI 1) dM_readItem_66 (by decide) ?_
          first | with_reducible refine ev_addN dM_readItem_67 ?_ | refine ev_add dM_readItem_67 ?_
          refine ev_puti dM_readItem_68 fM_140 fwM_blocks rfl (vp_nar_int _) rfl ?_
          refine ev_const (v := nI 1) dM_readItem_71 (by decide) ?_
          refine ev_ret dM_readItem_72 rfl rfl ?_
          refine rB_y (x := ((q.1, 1 :: q.2), aBl (aBeg B k 1) (B.1.2.1 :: B.1.1))) (((hs1.tr hs2).I (by unfold sAB; omega)).I (by unfold sAB; omega)) ?_ ?_ (by unfold aItem; rw [if_neg h6, if_pos (And.intro h29 h12)])
          · exact hA2.keep (by simp [zI_at]) (by simp [zI_at]) (fun i => by simp [zI_at])
          · exact hB2.bpush
  · simp (disch := omega) only [zcond, nI_eq, Classical.not_not] at h6
    rw [tMk_kind (m := 97) (by omega) hkd hsg] at h6
    refine ev_al dM_readItem_9 rfl (by first | assumption | rfl) ?_
    refine ev_il dM_readItem_10 rfl (by first | assumption | rfl) ?_
    refine ev_const (v := nI 0) dM_readItem_11 (by decide) ?_
    refine ev_cV dM_readItem_12 (r_start (k := k) (br := 0) hP hB.2.2.1 hO1 hB.1 (by decide)) lM_149 rec_M rfl (Nat.le_of_ble_eq_true rfl) rfl (Nat.le_of_ble_eq_true rfl) (fun z M2 hz => ?_)
    obtain ⟨rfl, hM2⟩ := hz
    have hP2 : M2.2.1 = zP0 n b := by rw [hM2]; exact hP
    have hP := hP2
    refine ev_al dM_readItem_15 rfl (by first | assumption | rfl) ?_
    refine ev_const (v := nI 1) dM_readItem_16 (by decide) ?_
    refine ev_puti dM_readItem_17 fM_134 fwM_state rfl (vp_nar_int _) rfl ?_
    refine ev_const (v := nI 1) dM_readItem_20 (by decide) ?_
    refine ev_ret dM_readItem_21 rfl rfl ?_
    refine rB_y (x := ((1, q.2), aBeg B k 0)) ?_ ?_ ?_ (by unfold aItem; rw [if_pos h6])
    · rw [hM2]; exact ((((((((zSame.rf sAB M).I (by unfold sAB; omega)).I (by unfold sAB; omega)).I (by unfold sAB; omega)).I (by unfold sAB; omega)).I (by unfold sAB; omega)).I (by unfold sAB; omega)).I (by unfold sAB; omega)).I (by unfold sAB; omega)
    · exact (hq.keep (M' := M2) (by rw [hM2]; simp [zI_at]) (by rw [hM2]; simp [zI_at]) (fun i => by rw [hM2]; simp [zI_at])).st
    · rw [hM2]; exact hB.beg.st
set_option maxRecDepth 100000 in
set_option maxHeartbeats 4000000 in
theorem r_readNamed {e k : Nat} {t : Nat → Nat} {ts : List (Nat × Nat × Nat)} {q : Nat × List Nat} {B : aB} (hP : M.2.1 = zP0 n b) (hk : MTk M e t ts) (hk2 : k < ts.length) (hq : AQ M q) (hB : AB M B) (hO : aOk q B) : Ct Lx xs (d + 2) mM_readNamed [.ref 25, .int (nI k)] M (rB M B (aNam (tMk t ts k) q B)) := by
  unfold Ct
  have he := hk.1.2.1
  have hlen := hk.2.2.1.2.1
  obtain ⟨hq1, hq2, hq3⟩ := hk.2.1.2 k _ (tk_at hk2)
  have hkd : (tk ts k).2.2 < 5 := by have := hk.2.2.1.2.2.1 k _ (tk_at hk2); omega
  have hsg := hk.2.2.2 k hk2
  obtain ⟨hO1, hO2, hO3, hO4⟩ := hO
  have hql := hq.2.2.1
  refine ev_al dM_readNamed_0 rfl (by first | assumption | rfl) ?_
  refine ev_il dM_readNamed_1 rfl (by first | assumption | rfl) ?_
  refine ev_const (v := nI 61) dM_readNamed_2 (by decide) ?_
  refine ev_pV dM_readNamed_4 (r_is (M := M) hP hk hk2 (by decide)) lM_153 rec_M rfl (Nat.le_of_ble_eq_true rfl) rfl (Nat.le_of_ble_eq_true rfl) ?_
  refine ev_if0 (tgt := 27) dM_readNamed_7 (by decide) (fun h7 => ?_) (fun h7 => ?_)
  · simp only [zcond, zb0, Classical.not_not, Bool.not_eq_false, Bool.not_eq_true, decide_eq_true_eq, decide_eq_false_iff_not] at h7
    refine ev_al dM_readNamed_27 rfl (by first | assumption | rfl) ?_
    refine ev_const (v := nI 3) dM_readNamed_28 (by decide) ?_
    refine ev_puti dM_readNamed_29 fM_134 fwM_state rfl (vp_nar_int _) rfl ?_
    refine ev_al dM_readNamed_32 rfl (by first | assumption | rfl) ?_
    refine ev_il dM_readNamed_33 rfl (by first | assumption | rfl) ?_
    refine ev_const (v := nI 40) dM_readNamed_34 (by decide) ?_
    refine ev_pV dM_readNamed_36 (r_is (M := (zI M 25 32 (nI 3))) hP (zSame.MTk (zSame.I (S := sAB) (zSame.rf _ M) (by unfold sAB; omega)) hk) hk2 (by decide)) lM_153 rec_M rfl (Nat.le_of_ble_eq_true rfl) rfl (Nat.le_of_ble_eq_true rfl) ?_
    refine ev_if0 (tgt := 54) dM_readNamed_39 (by decide) (fun h39 => ?_) (fun h39 => ?_)
    · simp only [zcond, zb0, Classical.not_not, Bool.not_eq_false, Bool.not_eq_true, decide_eq_true_eq, decide_eq_false_iff_not] at h39
      refine ev_const (v := nI 0) dM_readNamed_54 (by decide) ?_
      refine ev_ret dM_readNamed_55 rfl rfl ?_
      first
      | (refine rB_n (zSame.I (S := sAB) (zSame.rf _ M) (by unfold sAB; omega)) hB.st ?_
         unfold aNam
         have g1 : ¬ (tMk t ts k = 40 ∧ q.2.length ≠ 12) := by first | exact fun h => h39 h.1 | exact fun h => h.2 h12
         rw [if_neg h7, if_neg g1])
      | (rw [hM1]
         refine rB_y (x := ((3, 5 :: q.2), B)) (((zSame.I (S := sAB) (zSame.rf _ M) (by unfold sAB; omega)).I (by unfold sAB; omega)).I (by unfold sAB; omega)) ((hq.st (x := 3)).push h12 (by decide)) ((((zSame.rf sAQ M).I (Or.inl ⟨rfl, Or.inr rfl⟩)).I (Or.inr rfl)).I (Or.inl ⟨rfl, Or.inl rfl⟩) |>.AB hB) ?_
         unfold aNam
         rw [if_neg h7, if_pos (And.intro h39 h12)])
    · simp only [zcond, zb0, Classical.not_not, Bool.not_eq_false, Bool.not_eq_true, decide_eq_true_eq, decide_eq_false_iff_not] at h39
      refine ev_al dM_readNamed_42 rfl (by first | assumption | rfl) ?_
      refine ev_const (v := nI 5) dM_readNamed_43 (by decide) ?_
      by_cases h12 : q.2.length = 12
      · refine ev_pV dM_readNamed_44 (r_push_n (M := (zI M 25 32 (nI 3))) hP (hq.st (x := 3)) h12) lM_157 rec_M rfl (Nat.le_of_ble_eq_true rfl) rfl (Nat.le_of_ble_eq_true rfl) ?_
        refine ev_if0 (tgt := 54) dM_readNamed_47 (by decide) (fun h47 => ?_) (fun h47 => ?_)
        · try simp (disch := omega) only [zcond, nI_ltI, nI_leI, nI_eq, zb0, Classical.not_not, Bool.not_eq_false, Bool.not_eq_true, Nat.not_lt, Nat.not_le] at h47
          refine ev_const (v := nI 0) dM_readNamed_54 (by decide) ?_
          refine ev_ret dM_readNamed_55 rfl rfl ?_
          first
          | (refine rB_n (zSame.I (S := sAB) (zSame.rf _ M) (by unfold sAB; omega)) hB.st ?_
             unfold aNam
             have g1 : ¬ (tMk t ts k = 40 ∧ q.2.length ≠ 12) := by first | exact fun h => h39 h.1 | exact fun h => h.2 h12
             rw [if_neg h7, if_neg g1])
          | (rw [hM1]
             refine rB_y (x := ((3, 5 :: q.2), B)) (((zSame.I (S := sAB) (zSame.rf _ M) (by unfold sAB; omega)).I (by unfold sAB; omega)).I (by unfold sAB; omega)) ((hq.st (x := 3)).push h12 (by decide)) ((((zSame.rf sAQ M).I (Or.inl ⟨rfl, Or.inr rfl⟩)).I (Or.inr rfl)).I (Or.inl ⟨rfl, Or.inl rfl⟩) |>.AB hB) ?_
             unfold aNam
             rw [if_neg h7, if_pos (And.intro h39 h12)])
        · exact absurd (show nI 0 = nI 0 from rfl) h47
      · refine ev_cV dM_readNamed_44 (r_push_y (M := (zI M 25 32 (nI 3))) (x := 5) hP (hq.st (x := 3)) h12) lM_157 rec_M rfl (Nat.le_of_ble_eq_true rfl) rfl (Nat.le_of_ble_eq_true rfl) (fun z M1 hz => ?_)
        obtain ⟨rfl, hM1⟩ := hz
        refine ev_if0 (tgt := 54) dM_readNamed_47 (by decide) (fun h47 => ?_) (fun h47 => ?_)
        · exact absurd h47 (show ¬ nI 1 = nI 0 by decide)
        · try simp (disch := omega) only [zcond, nI_ltI, nI_leI, nI_eq, zb0, Classical.not_not, Bool.not_eq_false, Bool.not_eq_true, Nat.not_lt, Nat.not_le] at h47
          refine ev_const (v := nI 1) dM_readNamed_50 (by decide) ?_
          refine ev_goto (tgt := 55) dM_readNamed_51 (by decide) ?_
          refine ev_ret dM_readNamed_55 rfl rfl ?_
          first
          | (refine rB_n (zSame.I (S := sAB) (zSame.rf _ M) (by unfold sAB; omega)) hB.st ?_
             unfold aNam
             have g1 : ¬ (tMk t ts k = 40 ∧ q.2.length ≠ 12) := by first | exact fun h => h39 h.1 | exact fun h => h.2 h12
             rw [if_neg h7, if_neg g1])
          | (rw [hM1]
             refine rB_y (x := ((3, 5 :: q.2), B)) (((zSame.I (S := sAB) (zSame.rf _ M) (by unfold sAB; omega)).I (by unfold sAB; omega)).I (by unfold sAB; omega)) ((hq.st (x := 3)).push h12 (by decide)) ((((zSame.rf sAQ M).I (Or.inl ⟨rfl, Or.inr rfl⟩)).I (Or.inr rfl)).I (Or.inl ⟨rfl, Or.inl rfl⟩) |>.AB hB) ?_
             unfold aNam
             rw [if_neg h7, if_pos (And.intro h39 h12)])
  · simp only [zcond, zb0, Classical.not_not, Bool.not_eq_false, Bool.not_eq_true, decide_eq_true_eq, decide_eq_false_iff_not] at h7
    refine ev_al dM_readNamed_10 rfl (by first | assumption | rfl) ?_
    refine ev_getrP dM_readNamed_11 fM_51 rfl (zq (q := 39) hP rfl) ?_
    refine ev_al dM_readNamed_14 rfl (by first | assumption | rfl) ?_
    refine ev_geti dM_readNamed_15 fM_143 rfl ?_
    rw [hB.2.2.2.2.1]
    refine ev_const (v := nI 1) dM_readNamed_18 (by decide) ?_
    refine ev_zastN dM_readNamed_19 rfl (by omega) (by omega) ?_
    refine ev_al dM_readNamed_20 rfl (by first | assumption | rfl) ?_
    refine ev_const (v := nI 2) dM_readNamed_21 (by decide) ?_
    refine ev_puti dM_readNamed_22 fM_134 fwM_state rfl (vp_nar_int _) rfl ?_
    refine ev_const (v := nI 1) dM_readNamed_25 (by decide) ?_
    refine ev_ret dM_readNamed_26 rfl rfl ?_
    refine rB_y (x := ((2, q.2), aDf B)) (((zSame.rf sAB M).I (by unfold sAB; omega)).I (by unfold sAB; omega)) ?_ hB.df.st (by unfold aNam; rw [if_pos h7])
    exact (hq.keep (M' := zI M 39 B.1.2.2.2 (nI 1)) (by simp [zI_at]) (by simp [zI_at]) (fun i => by simp [zI_at])).st
set_option maxRecDepth 100000 in
set_option maxHeartbeats 4000000 in
theorem r_beh26 {e k : Nat} {t : Nat → Nat} {ts : List (Nat × Nat × Nat)} {q : Nat × List Nat} {B : aB} (hP : M.2.1 = zP0 n b) (hk : MTk M e t ts) (hk2 : k < ts.length) (hq : AQ M q) (hB : AB M B) (hO : aOk q B) {L : Nat → Value} (hL0 : L 0 = .ref 25) (hL1 : L 1 = .int (nI k)) (hL2 : L 2 = .int (nI (aTop q.2))) (hL3 : L 3 = .int (nI (aIn q.2).toNat)) : Ev Lx xs (d + 3) mM_readBehind 26 L [] M (zpost mM_readBehind (rB M B (aBeh (tMk t ts k) k q B))) := by
  have he := hk.1.2.1
  have hlen := hk.2.2.1.2.1
  obtain ⟨hq1, hq2, hq3⟩ := hk.2.1.2 k _ (tk_at hk2)
  have hkd : (tk ts k).2.2 < 5 := by have := hk.2.2.1.2.2.1 k _ (tk_at hk2); omega
  have hsg := hk.2.2.2 k hk2
  obtain ⟨hO1, hO2, hO3, hO4⟩ := hO
  have hql := hq.2.2.1
  have htop6 : aTop q.2 < 6 := by
    obtain ⟨a, l⟩ := q
    cases l with
    | nil => exact (by decide : 0 < 6)
    | cons y l => exact hq.2.2.2.2 y List.mem_cons_self
  refine ev_al dM_readBehind_26 rfl (by first | assumption | rfl) ?_
  refine ev_il dM_readBehind_27 rfl (by first | assumption | rfl) ?_
  refine ev_const (v := nI 43) dM_readBehind_28 (by decide) ?_
  refine ev_pV dM_readBehind_30 (r_is (M := M) hP hk hk2 (by decide)) lM_153 rec_M rfl (Nat.le_of_ble_eq_true rfl) rfl (Nat.le_of_ble_eq_true rfl) ?_
  refine ev_if0 (tgt := 75) dM_readBehind_33 (by decide) (fun h33 => ?_) (fun h33 => ?_)
  · simp only [zcond, zb0, Classical.not_not, Bool.not_eq_false, Bool.not_eq_true, decide_eq_true_eq, decide_eq_false_iff_not] at h33
    refine ev_al dM_readBehind_75 rfl (by first | assumption | rfl) ?_
    refine ev_const (v := nI 2) dM_readBehind_76 (by decide) ?_
    refine ev_puti dM_readBehind_77 fM_134 fwM_state rfl (vp_nar_int _) rfl ?_
    refine ev_const (v := nI 1) dM_readBehind_80 (by decide) ?_
    refine ev_ret dM_readBehind_81 rfl rfl ?_
    refine rB_y (x := ((2, q.2), B)) ((zSame.rf sAB M).I (by unfold sAB; omega)) hq.st hB.st ?_
    unfold aBeh
    have g : tMk t ts k = 43 ∨ tMk t ts k = 45 ∨ tMk t ts k = 42 ∨ (tMk t ts k = 44 ∧ aIn q.2 = true ∧ aTop q.2 ≠ 2) := by first | exact Or.inl h33 | exact Or.inr (Or.inl h43) | exact Or.inr (Or.inr (Or.inl h53)) | exact Or.inr (Or.inr (Or.inr ⟨h63, h67, h72⟩))
    rw [if_pos g]
  · simp only [zcond, zb0, Classical.not_not, Bool.not_eq_false, Bool.not_eq_true, decide_eq_true_eq, decide_eq_false_iff_not] at h33
    refine ev_al dM_readBehind_36 rfl (by first | assumption | rfl) ?_
    refine ev_il dM_readBehind_37 rfl (by first | assumption | rfl) ?_
    refine ev_const (v := nI 45) dM_readBehind_38 (by decide) ?_
    refine ev_pV dM_readBehind_40 (r_is (M := M) hP hk hk2 (by decide)) lM_153 rec_M rfl (Nat.le_of_ble_eq_true rfl) rfl (Nat.le_of_ble_eq_true rfl) ?_
    refine ev_if0 (tgt := 75) dM_readBehind_43 (by decide) (fun h43 => ?_) (fun h43 => ?_)
    · simp only [zcond, zb0, Classical.not_not, Bool.not_eq_false, Bool.not_eq_true, decide_eq_true_eq, decide_eq_false_iff_not] at h43
      refine ev_al dM_readBehind_75 rfl (by first | assumption | rfl) ?_
      refine ev_const (v := nI 2) dM_readBehind_76 (by decide) ?_
      refine ev_puti dM_readBehind_77 fM_134 fwM_state rfl (vp_nar_int _) rfl ?_
      refine ev_const (v := nI 1) dM_readBehind_80 (by decide) ?_
      refine ev_ret dM_readBehind_81 rfl rfl ?_
      refine rB_y (x := ((2, q.2), B)) ((zSame.rf sAB M).I (by unfold sAB; omega)) hq.st hB.st ?_
      unfold aBeh
      have g : tMk t ts k = 43 ∨ tMk t ts k = 45 ∨ tMk t ts k = 42 ∨ (tMk t ts k = 44 ∧ aIn q.2 = true ∧ aTop q.2 ≠ 2) := by first | exact Or.inl h33 | exact Or.inr (Or.inl h43) | exact Or.inr (Or.inr (Or.inl h53)) | exact Or.inr (Or.inr (Or.inr ⟨h63, h67, h72⟩))
      rw [if_pos g]
    · simp only [zcond, zb0, Classical.not_not, Bool.not_eq_false, Bool.not_eq_true, decide_eq_true_eq, decide_eq_false_iff_not] at h43
      refine ev_al dM_readBehind_46 rfl (by first | assumption | rfl) ?_
      refine ev_il dM_readBehind_47 rfl (by first | assumption | rfl) ?_
      refine ev_const (v := nI 42) dM_readBehind_48 (by decide) ?_
      refine ev_pV dM_readBehind_50 (r_is (M := M) hP hk hk2 (by decide)) lM_153 rec_M rfl (Nat.le_of_ble_eq_true rfl) rfl (Nat.le_of_ble_eq_true rfl) ?_
      refine ev_if0 (tgt := 75) dM_readBehind_53 (by decide) (fun h53 => ?_) (fun h53 => ?_)
      · simp only [zcond, zb0, Classical.not_not, Bool.not_eq_false, Bool.not_eq_true, decide_eq_true_eq, decide_eq_false_iff_not] at h53
        refine ev_al dM_readBehind_75 rfl (by first | assumption | rfl) ?_
        refine ev_const (v := nI 2) dM_readBehind_76 (by decide) ?_
        refine ev_puti dM_readBehind_77 fM_134 fwM_state rfl (vp_nar_int _) rfl ?_
        refine ev_const (v := nI 1) dM_readBehind_80 (by decide) ?_
        refine ev_ret dM_readBehind_81 rfl rfl ?_
        refine rB_y (x := ((2, q.2), B)) ((zSame.rf sAB M).I (by unfold sAB; omega)) hq.st hB.st ?_
        unfold aBeh
        have g : tMk t ts k = 43 ∨ tMk t ts k = 45 ∨ tMk t ts k = 42 ∨ (tMk t ts k = 44 ∧ aIn q.2 = true ∧ aTop q.2 ≠ 2) := by first | exact Or.inl h33 | exact Or.inr (Or.inl h43) | exact Or.inr (Or.inr (Or.inl h53)) | exact Or.inr (Or.inr (Or.inr ⟨h63, h67, h72⟩))
        rw [if_pos g]
      · simp only [zcond, zb0, Classical.not_not, Bool.not_eq_false, Bool.not_eq_true, decide_eq_true_eq, decide_eq_false_iff_not] at h53
        refine ev_al dM_readBehind_56 rfl (by first | assumption | rfl) ?_
        refine ev_il dM_readBehind_57 rfl (by first | assumption | rfl) ?_
        refine ev_const (v := nI 44) dM_readBehind_58 (by decide) ?_
        refine ev_pV dM_readBehind_60 (r_is (M := M) hP hk hk2 (by decide)) lM_153 rec_M rfl (Nat.le_of_ble_eq_true rfl) rfl (Nat.le_of_ble_eq_true rfl) ?_
        refine ev_if0 (tgt := 82) dM_readBehind_63 (by decide) (fun h63 => ?_) (fun h63 => ?_)
        · simp only [zcond, zb0, Classical.not_not, Bool.not_eq_false, Bool.not_eq_true, decide_eq_true_eq, decide_eq_false_iff_not] at h63
          refine ev_al dM_readBehind_82 rfl (by first | assumption | rfl) ?_
          refine ev_il dM_readBehind_83 rfl (by first | assumption | rfl) ?_
          refine ev_const (v := nI 41) dM_readBehind_84 (by decide) ?_
          refine ev_pV dM_readBehind_86 (r_is (M := M) hP hk hk2 (by decide)) lM_153 rec_M rfl (Nat.le_of_ble_eq_true rfl) rfl (Nat.le_of_ble_eq_true rfl) ?_
          refine ev_if0 (tgt := 101) dM_readBehind_89 (by decide) (fun h89 => ?_) (fun h89 => ?_)
          · simp only [zcond, zb0, Classical.not_not, Bool.not_eq_false, Bool.not_eq_true, decide_eq_true_eq, decide_eq_false_iff_not] at h89
            refine ev_al dM_readBehind_101 rfl (by first | assumption | rfl) ?_
            refine ev_il dM_readBehind_102 rfl (by first | assumption | rfl) ?_
            refine ev_const (v := nI 59) dM_readBehind_103 (by decide) ?_
            refine ev_pV dM_readBehind_105 (r_is (M := M) hP hk hk2 (by decide)) lM_153 rec_M rfl (Nat.le_of_ble_eq_true rfl) rfl (Nat.le_of_ble_eq_true rfl) ?_
            refine ev_if0 (tgt := 126) dM_readBehind_108 (by decide) (fun h108 => ?_) (fun h108 => ?_)
            · simp only [zcond, zb0, Classical.not_not, Bool.not_eq_false, Bool.not_eq_true, decide_eq_true_eq, decide_eq_false_iff_not] at h108
              refine ev_const (v := nI 0) dM_readBehind_126 (by decide) ?_
              refine ev_ret dM_readBehind_127 rfl rfl ?_
              refine rB_n (zSame.rf _ _) hB ?_
              unfold aBeh
              have g : ¬ (tMk t ts k = 43 ∨ tMk t ts k = 45 ∨ tMk t ts k = 42 ∨ (tMk t ts k = 44 ∧ aIn q.2 = true ∧ aTop q.2 ≠ 2)) := by
                rintro (h | h | h | ⟨h, h', h''⟩)
                · exact h33 h
                · exact h43 h
                · exact h53 h
                · first | exact h63 h | exact h'' h72 | (rw [h'] at h67; cases h67)
              have g2 : ¬ (tMk t ts k = 41 ∧ aIn q.2 = true) := by
                rintro ⟨h, h'⟩
                first | exact h89 h | (rw [h'] at h93; cases h93)
              have g3 : ¬ (tMk t ts k = 59 ∧ aIn q.2 = false) := by
                rintro ⟨h, h'⟩
                first | exact h108 h | (rw [h'] at h112; cases h112)
              rw [if_neg g, if_neg g2, if_neg g3]
            · simp only [zcond, zb0, Classical.not_not, Bool.not_eq_false, Bool.not_eq_true, decide_eq_true_eq, decide_eq_false_iff_not] at h108
              refine ev_il dM_readBehind_111 rfl (by first | assumption | rfl) ?_
              refine ev_if0 (tgt := 126) dM_readBehind_112 (by decide) (fun h112 => ?_) (fun h112 => ?_)
              · simp only [zcond, zb0, Classical.not_not, Bool.not_eq_false, Bool.not_eq_true] at h112
                refine ev_const (v := nI 0) dM_readBehind_126 (by decide) ?_
                refine ev_ret dM_readBehind_127 rfl rfl ?_
                refine rB_n (zSame.rf _ _) hB ?_
                unfold aBeh
                have g : ¬ (tMk t ts k = 43 ∨ tMk t ts k = 45 ∨ tMk t ts k = 42 ∨ (tMk t ts k = 44 ∧ aIn q.2 = true ∧ aTop q.2 ≠ 2)) := by
                  rintro (h | h | h | ⟨h, h', h''⟩)
                  · exact h33 h
                  · exact h43 h
                  · exact h53 h
                  · first | exact h63 h | exact h'' h72 | (rw [h'] at h67; cases h67)
                have g2 : ¬ (tMk t ts k = 41 ∧ aIn q.2 = true) := by
                  rintro ⟨h, h'⟩
                  first | exact h89 h | (rw [h'] at h93; cases h93)
                have g3 : ¬ (tMk t ts k = 59 ∧ aIn q.2 = false) := by
                  rintro ⟨h, h'⟩
                  first | exact h108 h | (rw [h'] at h112; cases h112)
                rw [if_neg g, if_neg g2, if_neg g3]
              · simp only [zcond, zb0, Classical.not_not, Bool.not_eq_false, Bool.not_eq_true] at h112
                refine ev_al dM_readBehind_115 rfl (by first | assumption | rfl) ?_
                refine ev_al dM_readBehind_116 rfl (by first | assumption | rfl) ?_
                refine ev_geti dM_readBehind_117 fM_143 rfl ?_
                rw [hB.2.2.2.2.1]
                refine ev_il dM_readBehind_120 rfl (by first | assumption | rfl) ?_
                refine ev_cV dM_readBehind_121 (r_finish (j := B.1.2.2.2) (k := k) hP hO3 hq.2.1 hql hB.2.2.1 hB.2.2.2.1) lM_161 rec_M rfl (Nat.le_of_ble_eq_true rfl) rfl (Nat.le_of_ble_eq_true rfl) (fun z M5 hz => ?_)
                obtain ⟨rfl, hM5⟩ := hz
                refine ev_const (v := nI 1) dM_readBehind_124 (by decide) ?_
                refine ev_ret dM_readBehind_125 rfl rfl ?_
                rw [hM5]
                refine rB_y (x := ((0, q.2), aFin B q.2.length B.1.2.2.2 k)) ((((zSame.rf sAB M).I (by unfold sAB; omega)).I (by unfold sAB; omega)).I (by unfold sAB; omega)) ?_ hB.fin ?_
                · exact (hq.st (x := 0)).keep (by simp [zI_at]) (by simp [zI_at]) (fun i => by simp [zI_at])
                · unfold aBeh
                  have g : ¬ (tMk t ts k = 43 ∨ tMk t ts k = 45 ∨ tMk t ts k = 42 ∨ (tMk t ts k = 44 ∧ aIn q.2 = true ∧ aTop q.2 ≠ 2)) := by omega
                  have g2 : ¬ (tMk t ts k = 41 ∧ aIn q.2 = true) := by omega
                  rw [if_neg g, if_neg g2, if_pos (And.intro h108 h112)]
          · simp only [zcond, zb0, Classical.not_not, Bool.not_eq_false, Bool.not_eq_true, decide_eq_true_eq, decide_eq_false_iff_not] at h89
            refine ev_il dM_readBehind_92 rfl (by first | assumption | rfl) ?_
            refine ev_if0 (tgt := 101) dM_readBehind_93 (by decide) (fun h93 => ?_) (fun h93 => ?_)
            · simp only [zcond, zb0, Classical.not_not, Bool.not_eq_false, Bool.not_eq_true] at h93
              refine ev_al dM_readBehind_101 rfl (by first | assumption | rfl) ?_
              refine ev_il dM_readBehind_102 rfl (by first | assumption | rfl) ?_
              refine ev_const (v := nI 59) dM_readBehind_103 (by decide) ?_
              refine ev_pV dM_readBehind_105 (r_is (M := M) hP hk hk2 (by decide)) lM_153 rec_M rfl (Nat.le_of_ble_eq_true rfl) rfl (Nat.le_of_ble_eq_true rfl) ?_
              refine ev_if0 (tgt := 126) dM_readBehind_108 (by decide) (fun h108 => ?_) (fun h108 => ?_)
              · simp only [zcond, zb0, Classical.not_not, Bool.not_eq_false, Bool.not_eq_true, decide_eq_true_eq, decide_eq_false_iff_not] at h108
                refine ev_const (v := nI 0) dM_readBehind_126 (by decide) ?_
                refine ev_ret dM_readBehind_127 rfl rfl ?_
                refine rB_n (zSame.rf _ _) hB ?_
                unfold aBeh
                have g : ¬ (tMk t ts k = 43 ∨ tMk t ts k = 45 ∨ tMk t ts k = 42 ∨ (tMk t ts k = 44 ∧ aIn q.2 = true ∧ aTop q.2 ≠ 2)) := by
                  rintro (h | h | h | ⟨h, h', h''⟩)
                  · exact h33 h
                  · exact h43 h
                  · exact h53 h
                  · first | exact h63 h | exact h'' h72 | (rw [h'] at h67; cases h67)
                have g2 : ¬ (tMk t ts k = 41 ∧ aIn q.2 = true) := by
                  rintro ⟨h, h'⟩
                  first | exact h89 h | (rw [h'] at h93; cases h93)
                have g3 : ¬ (tMk t ts k = 59 ∧ aIn q.2 = false) := by
                  rintro ⟨h, h'⟩
                  first | exact h108 h | (rw [h'] at h112; cases h112)
                rw [if_neg g, if_neg g2, if_neg g3]
              · simp only [zcond, zb0, Classical.not_not, Bool.not_eq_false, Bool.not_eq_true, decide_eq_true_eq, decide_eq_false_iff_not] at h108
                refine ev_il dM_readBehind_111 rfl (by first | assumption | rfl) ?_
                refine ev_if0 (tgt := 126) dM_readBehind_112 (by decide) (fun h112 => ?_) (fun h112 => ?_)
                · simp only [zcond, zb0, Classical.not_not, Bool.not_eq_false, Bool.not_eq_true] at h112
                  refine ev_const (v := nI 0) dM_readBehind_126 (by decide) ?_
                  refine ev_ret dM_readBehind_127 rfl rfl ?_
                  refine rB_n (zSame.rf _ _) hB ?_
                  unfold aBeh
                  have g : ¬ (tMk t ts k = 43 ∨ tMk t ts k = 45 ∨ tMk t ts k = 42 ∨ (tMk t ts k = 44 ∧ aIn q.2 = true ∧ aTop q.2 ≠ 2)) := by
                    rintro (h | h | h | ⟨h, h', h''⟩)
                    · exact h33 h
                    · exact h43 h
                    · exact h53 h
                    · first | exact h63 h | exact h'' h72 | (rw [h'] at h67; cases h67)
                  have g2 : ¬ (tMk t ts k = 41 ∧ aIn q.2 = true) := by
                    rintro ⟨h, h'⟩
                    first | exact h89 h | (rw [h'] at h93; cases h93)
                  have g3 : ¬ (tMk t ts k = 59 ∧ aIn q.2 = false) := by
                    rintro ⟨h, h'⟩
                    first | exact h108 h | (rw [h'] at h112; cases h112)
                  rw [if_neg g, if_neg g2, if_neg g3]
                · simp only [zcond, zb0, Classical.not_not, Bool.not_eq_false, Bool.not_eq_true] at h112
                  refine ev_al dM_readBehind_115 rfl (by first | assumption | rfl) ?_
                  refine ev_al dM_readBehind_116 rfl (by first | assumption | rfl) ?_
                  refine ev_geti dM_readBehind_117 fM_143 rfl ?_
                  rw [hB.2.2.2.2.1]
                  refine ev_il dM_readBehind_120 rfl (by first | assumption | rfl) ?_
                  refine ev_cV dM_readBehind_121 (r_finish (j := B.1.2.2.2) (k := k) hP hO3 hq.2.1 hql hB.2.2.1 hB.2.2.2.1) lM_161 rec_M rfl (Nat.le_of_ble_eq_true rfl) rfl (Nat.le_of_ble_eq_true rfl) (fun z M5 hz => ?_)
                  obtain ⟨rfl, hM5⟩ := hz
                  refine ev_const (v := nI 1) dM_readBehind_124 (by decide) ?_
                  refine ev_ret dM_readBehind_125 rfl rfl ?_
                  rw [hM5]
                  refine rB_y (x := ((0, q.2), aFin B q.2.length B.1.2.2.2 k)) ((((zSame.rf sAB M).I (by unfold sAB; omega)).I (by unfold sAB; omega)).I (by unfold sAB; omega)) ?_ hB.fin ?_
                  · exact (hq.st (x := 0)).keep (by simp [zI_at]) (by simp [zI_at]) (fun i => by simp [zI_at])
                  · unfold aBeh
                    have g : ¬ (tMk t ts k = 43 ∨ tMk t ts k = 45 ∨ tMk t ts k = 42 ∨ (tMk t ts k = 44 ∧ aIn q.2 = true ∧ aTop q.2 ≠ 2)) := by omega
                    have g2 : ¬ (tMk t ts k = 41 ∧ aIn q.2 = true) := by omega
                    rw [if_neg g, if_neg g2, if_pos (And.intro h108 h112)]
            · simp only [zcond, zb0, Classical.not_not, Bool.not_eq_false, Bool.not_eq_true] at h93
              refine ev_al dM_readBehind_96 rfl (by first | assumption | rfl) ?_
              obtain ⟨x, o, ho⟩ := aIn_cons h93
              have hq' : AQ M (q.1, x :: o) := by rw [← ho]; exact hq
              refine ev_cV dM_readBehind_97 (r_close hP hq') lM_168 rec_M rfl (Nat.le_of_ble_eq_true rfl) rfl (Nat.le_of_ble_eq_true rfl) (fun z M1 hz => ?_)
              obtain ⟨hs1, rfl, hA1⟩ := hz
              refine ev_ret dM_readBehind_100 rfl rfl ?_
              refine rB_y (x := (aClo q.2, B)) hs1.up ?_ (hs1.AB hB) ?_
              · rw [ho]; exact hA1
              · unfold aBeh
                have g : ¬ (tMk t ts k = 43 ∨ tMk t ts k = 45 ∨ tMk t ts k = 42 ∨ (tMk t ts k = 44 ∧ aIn q.2 = true ∧ aTop q.2 ≠ 2)) := by omega
                rw [if_neg g, if_pos (And.intro h89 h93)]
        · simp only [zcond, zb0, Classical.not_not, Bool.not_eq_false, Bool.not_eq_true, decide_eq_true_eq, decide_eq_false_iff_not] at h63
          refine ev_il dM_readBehind_66 rfl (by first | assumption | rfl) ?_
          refine ev_if0 (tgt := 82) dM_readBehind_67 (by decide) (fun h67 => ?_) (fun h67 => ?_)
          · simp only [zcond, zb0, Classical.not_not, Bool.not_eq_false, Bool.not_eq_true] at h67
            refine ev_al dM_readBehind_82 rfl (by first | assumption | rfl) ?_
            refine ev_il dM_readBehind_83 rfl (by first | assumption | rfl) ?_
            refine ev_const (v := nI 41) dM_readBehind_84 (by decide) ?_
            refine ev_pV dM_readBehind_86 (r_is (M := M) hP hk hk2 (by decide)) lM_153 rec_M rfl (Nat.le_of_ble_eq_true rfl) rfl (Nat.le_of_ble_eq_true rfl) ?_
            refine ev_if0 (tgt := 101) dM_readBehind_89 (by decide) (fun h89 => ?_) (fun h89 => ?_)
            · simp only [zcond, zb0, Classical.not_not, Bool.not_eq_false, Bool.not_eq_true, decide_eq_true_eq, decide_eq_false_iff_not] at h89
              refine ev_al dM_readBehind_101 rfl (by first | assumption | rfl) ?_
              refine ev_il dM_readBehind_102 rfl (by first | assumption | rfl) ?_
              refine ev_const (v := nI 59) dM_readBehind_103 (by decide) ?_
              refine ev_pV dM_readBehind_105 (r_is (M := M) hP hk hk2 (by decide)) lM_153 rec_M rfl (Nat.le_of_ble_eq_true rfl) rfl (Nat.le_of_ble_eq_true rfl) ?_
              refine ev_if0 (tgt := 126) dM_readBehind_108 (by decide) (fun h108 => ?_) (fun h108 => ?_)
              · simp only [zcond, zb0, Classical.not_not, Bool.not_eq_false, Bool.not_eq_true, decide_eq_true_eq, decide_eq_false_iff_not] at h108
                refine ev_const (v := nI 0) dM_readBehind_126 (by decide) ?_
                refine ev_ret dM_readBehind_127 rfl rfl ?_
                refine rB_n (zSame.rf _ _) hB ?_
                unfold aBeh
                have g : ¬ (tMk t ts k = 43 ∨ tMk t ts k = 45 ∨ tMk t ts k = 42 ∨ (tMk t ts k = 44 ∧ aIn q.2 = true ∧ aTop q.2 ≠ 2)) := by
                  rintro (h | h | h | ⟨h, h', h''⟩)
                  · exact h33 h
                  · exact h43 h
                  · exact h53 h
                  · first | exact h63 h | exact h'' h72 | (rw [h'] at h67; cases h67)
                have g2 : ¬ (tMk t ts k = 41 ∧ aIn q.2 = true) := by
                  rintro ⟨h, h'⟩
                  first | exact h89 h | (rw [h'] at h93; cases h93)
                have g3 : ¬ (tMk t ts k = 59 ∧ aIn q.2 = false) := by
                  rintro ⟨h, h'⟩
                  first | exact h108 h | (rw [h'] at h112; cases h112)
                rw [if_neg g, if_neg g2, if_neg g3]
              · simp only [zcond, zb0, Classical.not_not, Bool.not_eq_false, Bool.not_eq_true, decide_eq_true_eq, decide_eq_false_iff_not] at h108
                refine ev_il dM_readBehind_111 rfl (by first | assumption | rfl) ?_
                refine ev_if0 (tgt := 126) dM_readBehind_112 (by decide) (fun h112 => ?_) (fun h112 => ?_)
                · simp only [zcond, zb0, Classical.not_not, Bool.not_eq_false, Bool.not_eq_true] at h112
                  refine ev_const (v := nI 0) dM_readBehind_126 (by decide) ?_
                  refine ev_ret dM_readBehind_127 rfl rfl ?_
                  refine rB_n (zSame.rf _ _) hB ?_
                  unfold aBeh
                  have g : ¬ (tMk t ts k = 43 ∨ tMk t ts k = 45 ∨ tMk t ts k = 42 ∨ (tMk t ts k = 44 ∧ aIn q.2 = true ∧ aTop q.2 ≠ 2)) := by
                    rintro (h | h | h | ⟨h, h', h''⟩)
                    · exact h33 h
                    · exact h43 h
                    · exact h53 h
                    · first | exact h63 h | exact h'' h72 | (rw [h'] at h67; cases h67)
                  have g2 : ¬ (tMk t ts k = 41 ∧ aIn q.2 = true) := by
                    rintro ⟨h, h'⟩
                    first | exact h89 h | (rw [h'] at h93; cases h93)
                  have g3 : ¬ (tMk t ts k = 59 ∧ aIn q.2 = false) := by
                    rintro ⟨h, h'⟩
                    first | exact h108 h | (rw [h'] at h112; cases h112)
                  rw [if_neg g, if_neg g2, if_neg g3]
                · simp only [zcond, zb0, Classical.not_not, Bool.not_eq_false, Bool.not_eq_true] at h112
                  refine ev_al dM_readBehind_115 rfl (by first | assumption | rfl) ?_
                  refine ev_al dM_readBehind_116 rfl (by first | assumption | rfl) ?_
                  refine ev_geti dM_readBehind_117 fM_143 rfl ?_
                  rw [hB.2.2.2.2.1]
                  refine ev_il dM_readBehind_120 rfl (by first | assumption | rfl) ?_
                  refine ev_cV dM_readBehind_121 (r_finish (j := B.1.2.2.2) (k := k) hP hO3 hq.2.1 hql hB.2.2.1 hB.2.2.2.1) lM_161 rec_M rfl (Nat.le_of_ble_eq_true rfl) rfl (Nat.le_of_ble_eq_true rfl) (fun z M5 hz => ?_)
                  obtain ⟨rfl, hM5⟩ := hz
                  refine ev_const (v := nI 1) dM_readBehind_124 (by decide) ?_
                  refine ev_ret dM_readBehind_125 rfl rfl ?_
                  rw [hM5]
                  refine rB_y (x := ((0, q.2), aFin B q.2.length B.1.2.2.2 k)) ((((zSame.rf sAB M).I (by unfold sAB; omega)).I (by unfold sAB; omega)).I (by unfold sAB; omega)) ?_ hB.fin ?_
                  · exact (hq.st (x := 0)).keep (by simp [zI_at]) (by simp [zI_at]) (fun i => by simp [zI_at])
                  · unfold aBeh
                    have g : ¬ (tMk t ts k = 43 ∨ tMk t ts k = 45 ∨ tMk t ts k = 42 ∨ (tMk t ts k = 44 ∧ aIn q.2 = true ∧ aTop q.2 ≠ 2)) := by omega
                    have g2 : ¬ (tMk t ts k = 41 ∧ aIn q.2 = true) := by omega
                    rw [if_neg g, if_neg g2, if_pos (And.intro h108 h112)]
            · simp only [zcond, zb0, Classical.not_not, Bool.not_eq_false, Bool.not_eq_true, decide_eq_true_eq, decide_eq_false_iff_not] at h89
              refine ev_il dM_readBehind_92 rfl (by first | assumption | rfl) ?_
              refine ev_if0 (tgt := 101) dM_readBehind_93 (by decide) (fun h93 => ?_) (fun h93 => ?_)
              · simp only [zcond, zb0, Classical.not_not, Bool.not_eq_false, Bool.not_eq_true] at h93
                refine ev_al dM_readBehind_101 rfl (by first | assumption | rfl) ?_
                refine ev_il dM_readBehind_102 rfl (by first | assumption | rfl) ?_
                refine ev_const (v := nI 59) dM_readBehind_103 (by decide) ?_
                refine ev_pV dM_readBehind_105 (r_is (M := M) hP hk hk2 (by decide)) lM_153 rec_M rfl (Nat.le_of_ble_eq_true rfl) rfl (Nat.le_of_ble_eq_true rfl) ?_
                refine ev_if0 (tgt := 126) dM_readBehind_108 (by decide) (fun h108 => ?_) (fun h108 => ?_)
                · simp only [zcond, zb0, Classical.not_not, Bool.not_eq_false, Bool.not_eq_true, decide_eq_true_eq, decide_eq_false_iff_not] at h108
                  refine ev_const (v := nI 0) dM_readBehind_126 (by decide) ?_
                  refine ev_ret dM_readBehind_127 rfl rfl ?_
                  refine rB_n (zSame.rf _ _) hB ?_
                  unfold aBeh
                  have g : ¬ (tMk t ts k = 43 ∨ tMk t ts k = 45 ∨ tMk t ts k = 42 ∨ (tMk t ts k = 44 ∧ aIn q.2 = true ∧ aTop q.2 ≠ 2)) := by
                    rintro (h | h | h | ⟨h, h', h''⟩)
                    · exact h33 h
                    · exact h43 h
                    · exact h53 h
                    · first | exact h63 h | exact h'' h72 | (rw [h'] at h67; cases h67)
                  have g2 : ¬ (tMk t ts k = 41 ∧ aIn q.2 = true) := by
                    rintro ⟨h, h'⟩
                    first | exact h89 h | (rw [h'] at h93; cases h93)
                  have g3 : ¬ (tMk t ts k = 59 ∧ aIn q.2 = false) := by
                    rintro ⟨h, h'⟩
                    first | exact h108 h | (rw [h'] at h112; cases h112)
                  rw [if_neg g, if_neg g2, if_neg g3]
                · simp only [zcond, zb0, Classical.not_not, Bool.not_eq_false, Bool.not_eq_true, decide_eq_true_eq, decide_eq_false_iff_not] at h108
                  refine ev_il dM_readBehind_111 rfl (by first | assumption | rfl) ?_
                  refine ev_if0 (tgt := 126) dM_readBehind_112 (by decide) (fun h112 => ?_) (fun h112 => ?_)
                  · simp only [zcond, zb0, Classical.not_not, Bool.not_eq_false, Bool.not_eq_true] at h112
                    refine ev_const (v := nI 0) dM_readBehind_126 (by decide) ?_
                    refine ev_ret dM_readBehind_127 rfl rfl ?_
                    refine rB_n (zSame.rf _ _) hB ?_
                    unfold aBeh
                    have g : ¬ (tMk t ts k = 43 ∨ tMk t ts k = 45 ∨ tMk t ts k = 42 ∨ (tMk t ts k = 44 ∧ aIn q.2 = true ∧ aTop q.2 ≠ 2)) := by
                      rintro (h | h | h | ⟨h, h', h''⟩)
                      · exact h33 h
                      · exact h43 h
                      · exact h53 h
                      · first | exact h63 h | exact h'' h72 | (rw [h'] at h67; cases h67)
                    have g2 : ¬ (tMk t ts k = 41 ∧ aIn q.2 = true) := by
                      rintro ⟨h, h'⟩
                      first | exact h89 h | (rw [h'] at h93; cases h93)
                    have g3 : ¬ (tMk t ts k = 59 ∧ aIn q.2 = false) := by
                      rintro ⟨h, h'⟩
                      first | exact h108 h | (rw [h'] at h112; cases h112)
                    rw [if_neg g, if_neg g2, if_neg g3]
                  · simp only [zcond, zb0, Classical.not_not, Bool.not_eq_false, Bool.not_eq_true] at h112
                    refine ev_al dM_readBehind_115 rfl (by first | assumption | rfl) ?_
                    refine ev_al dM_readBehind_116 rfl (by first | assumption | rfl) ?_
                    refine ev_geti dM_readBehind_117 fM_143 rfl ?_
                    rw [hB.2.2.2.2.1]
                    refine ev_il dM_readBehind_120 rfl (by first | assumption | rfl) ?_
                    refine ev_cV dM_readBehind_121 (r_finish (j := B.1.2.2.2) (k := k) hP hO3 hq.2.1 hql hB.2.2.1 hB.2.2.2.1) lM_161 rec_M rfl (Nat.le_of_ble_eq_true rfl) rfl (Nat.le_of_ble_eq_true rfl) (fun z M5 hz => ?_)
                    obtain ⟨rfl, hM5⟩ := hz
                    refine ev_const (v := nI 1) dM_readBehind_124 (by decide) ?_
                    refine ev_ret dM_readBehind_125 rfl rfl ?_
                    rw [hM5]
                    refine rB_y (x := ((0, q.2), aFin B q.2.length B.1.2.2.2 k)) ((((zSame.rf sAB M).I (by unfold sAB; omega)).I (by unfold sAB; omega)).I (by unfold sAB; omega)) ?_ hB.fin ?_
                    · exact (hq.st (x := 0)).keep (by simp [zI_at]) (by simp [zI_at]) (fun i => by simp [zI_at])
                    · unfold aBeh
                      have g : ¬ (tMk t ts k = 43 ∨ tMk t ts k = 45 ∨ tMk t ts k = 42 ∨ (tMk t ts k = 44 ∧ aIn q.2 = true ∧ aTop q.2 ≠ 2)) := by omega
                      have g2 : ¬ (tMk t ts k = 41 ∧ aIn q.2 = true) := by omega
                      rw [if_neg g, if_neg g2, if_pos (And.intro h108 h112)]
              · simp only [zcond, zb0, Classical.not_not, Bool.not_eq_false, Bool.not_eq_true] at h93
                refine ev_al dM_readBehind_96 rfl (by first | assumption | rfl) ?_
                obtain ⟨x, o, ho⟩ := aIn_cons h93
                have hq' : AQ M (q.1, x :: o) := by rw [← ho]; exact hq
                refine ev_cV dM_readBehind_97 (r_close hP hq') lM_168 rec_M rfl (Nat.le_of_ble_eq_true rfl) rfl (Nat.le_of_ble_eq_true rfl) (fun z M1 hz => ?_)
                obtain ⟨hs1, rfl, hA1⟩ := hz
                refine ev_ret dM_readBehind_100 rfl rfl ?_
                refine rB_y (x := (aClo q.2, B)) hs1.up ?_ (hs1.AB hB) ?_
                · rw [ho]; exact hA1
                · unfold aBeh
                  have g : ¬ (tMk t ts k = 43 ∨ tMk t ts k = 45 ∨ tMk t ts k = 42 ∨ (tMk t ts k = 44 ∧ aIn q.2 = true ∧ aTop q.2 ≠ 2)) := by omega
                  rw [if_neg g, if_pos (And.intro h89 h93)]
          · simp only [zcond, zb0, Classical.not_not, Bool.not_eq_false, Bool.not_eq_true] at h67
            refine ev_il dM_readBehind_70 rfl (by first | assumption | rfl) ?_
            refine ev_const (v := nI 2) dM_readBehind_71 (by decide) ?_
            refine ev_icmp (tgt := 82) dM_readBehind_72 (by decide) (fun h72 => ?_) (fun h72 => ?_)
            · simp (disch := omega) only [zcond, nI_eq, Classical.not_not] at h72
              refine ev_al dM_readBehind_82 rfl (by first | assumption | rfl) ?_
              refine ev_il dM_readBehind_83 rfl (by first | assumption | rfl) ?_
              refine ev_const (v := nI 41) dM_readBehind_84 (by decide) ?_
              refine ev_pV dM_readBehind_86 (r_is (M := M) hP hk hk2 (by decide)) lM_153 rec_M rfl (Nat.le_of_ble_eq_true rfl) rfl (Nat.le_of_ble_eq_true rfl) ?_
              refine ev_if0 (tgt := 101) dM_readBehind_89 (by decide) (fun h89 => ?_) (fun h89 => ?_)
              · simp only [zcond, zb0, Classical.not_not, Bool.not_eq_false, Bool.not_eq_true, decide_eq_true_eq, decide_eq_false_iff_not] at h89
                refine ev_al dM_readBehind_101 rfl (by first | assumption | rfl) ?_
                refine ev_il dM_readBehind_102 rfl (by first | assumption | rfl) ?_
                refine ev_const (v := nI 59) dM_readBehind_103 (by decide) ?_
                refine ev_pV dM_readBehind_105 (r_is (M := M) hP hk hk2 (by decide)) lM_153 rec_M rfl (Nat.le_of_ble_eq_true rfl) rfl (Nat.le_of_ble_eq_true rfl) ?_
                refine ev_if0 (tgt := 126) dM_readBehind_108 (by decide) (fun h108 => ?_) (fun h108 => ?_)
                · simp only [zcond, zb0, Classical.not_not, Bool.not_eq_false, Bool.not_eq_true, decide_eq_true_eq, decide_eq_false_iff_not] at h108
                  refine ev_const (v := nI 0) dM_readBehind_126 (by decide) ?_
                  refine ev_ret dM_readBehind_127 rfl rfl ?_
                  refine rB_n (zSame.rf _ _) hB ?_
                  unfold aBeh
                  have g : ¬ (tMk t ts k = 43 ∨ tMk t ts k = 45 ∨ tMk t ts k = 42 ∨ (tMk t ts k = 44 ∧ aIn q.2 = true ∧ aTop q.2 ≠ 2)) := by
                    rintro (h | h | h | ⟨h, h', h''⟩)
                    · exact h33 h
                    · exact h43 h
                    · exact h53 h
                    · first | exact h63 h | exact h'' h72 | (rw [h'] at h67; cases h67)
                  have g2 : ¬ (tMk t ts k = 41 ∧ aIn q.2 = true) := by
                    rintro ⟨h, h'⟩
                    first | exact h89 h | (rw [h'] at h93; cases h93)
                  have g3 : ¬ (tMk t ts k = 59 ∧ aIn q.2 = false) := by
                    rintro ⟨h, h'⟩
                    first | exact h108 h | (rw [h'] at h112; cases h112)
                  rw [if_neg g, if_neg g2, if_neg g3]
                · simp only [zcond, zb0, Classical.not_not, Bool.not_eq_false, Bool.not_eq_true, decide_eq_true_eq, decide_eq_false_iff_not] at h108
                  refine ev_il dM_readBehind_111 rfl (by first | assumption | rfl) ?_
                  refine ev_if0 (tgt := 126) dM_readBehind_112 (by decide) (fun h112 => ?_) (fun h112 => ?_)
                  · simp only [zcond, zb0, Classical.not_not, Bool.not_eq_false, Bool.not_eq_true] at h112
                    refine ev_const (v := nI 0) dM_readBehind_126 (by decide) ?_
                    refine ev_ret dM_readBehind_127 rfl rfl ?_
                    refine rB_n (zSame.rf _ _) hB ?_
                    unfold aBeh
                    have g : ¬ (tMk t ts k = 43 ∨ tMk t ts k = 45 ∨ tMk t ts k = 42 ∨ (tMk t ts k = 44 ∧ aIn q.2 = true ∧ aTop q.2 ≠ 2)) := by
                      rintro (h | h | h | ⟨h, h', h''⟩)
                      · exact h33 h
                      · exact h43 h
                      · exact h53 h
                      · first | exact h63 h | exact h'' h72 | (rw [h'] at h67; cases h67)
                    have g2 : ¬ (tMk t ts k = 41 ∧ aIn q.2 = true) := by
                      rintro ⟨h, h'⟩
                      first | exact h89 h | (rw [h'] at h93; cases h93)
                    have g3 : ¬ (tMk t ts k = 59 ∧ aIn q.2 = false) := by
                      rintro ⟨h, h'⟩
                      first | exact h108 h | (rw [h'] at h112; cases h112)
                    rw [if_neg g, if_neg g2, if_neg g3]
                  · simp only [zcond, zb0, Classical.not_not, Bool.not_eq_false, Bool.not_eq_true] at h112
                    refine ev_al dM_readBehind_115 rfl (by first | assumption | rfl) ?_
                    refine ev_al dM_readBehind_116 rfl (by first | assumption | rfl) ?_
                    refine ev_geti dM_readBehind_117 fM_143 rfl ?_
                    rw [hB.2.2.2.2.1]
                    refine ev_il dM_readBehind_120 rfl (by first | assumption | rfl) ?_
                    refine ev_cV dM_readBehind_121 (r_finish (j := B.1.2.2.2) (k := k) hP hO3 hq.2.1 hql hB.2.2.1 hB.2.2.2.1) lM_161 rec_M rfl (Nat.le_of_ble_eq_true rfl) rfl (Nat.le_of_ble_eq_true rfl) (fun z M5 hz => ?_)
                    obtain ⟨rfl, hM5⟩ := hz
                    refine ev_const (v := nI 1) dM_readBehind_124 (by decide) ?_
                    refine ev_ret dM_readBehind_125 rfl rfl ?_
                    rw [hM5]
                    refine rB_y (x := ((0, q.2), aFin B q.2.length B.1.2.2.2 k)) ((((zSame.rf sAB M).I (by unfold sAB; omega)).I (by unfold sAB; omega)).I (by unfold sAB; omega)) ?_ hB.fin ?_
                    · exact (hq.st (x := 0)).keep (by simp [zI_at]) (by simp [zI_at]) (fun i => by simp [zI_at])
                    · unfold aBeh
                      have g : ¬ (tMk t ts k = 43 ∨ tMk t ts k = 45 ∨ tMk t ts k = 42 ∨ (tMk t ts k = 44 ∧ aIn q.2 = true ∧ aTop q.2 ≠ 2)) := by omega
                      have g2 : ¬ (tMk t ts k = 41 ∧ aIn q.2 = true) := by omega
                      rw [if_neg g, if_neg g2, if_pos (And.intro h108 h112)]
              · simp only [zcond, zb0, Classical.not_not, Bool.not_eq_false, Bool.not_eq_true, decide_eq_true_eq, decide_eq_false_iff_not] at h89
                refine ev_il dM_readBehind_92 rfl (by first | assumption | rfl) ?_
                refine ev_if0 (tgt := 101) dM_readBehind_93 (by decide) (fun h93 => ?_) (fun h93 => ?_)
                · simp only [zcond, zb0, Classical.not_not, Bool.not_eq_false, Bool.not_eq_true] at h93
                  refine ev_al dM_readBehind_101 rfl (by first | assumption | rfl) ?_
                  refine ev_il dM_readBehind_102 rfl (by first | assumption | rfl) ?_
                  refine ev_const (v := nI 59) dM_readBehind_103 (by decide) ?_
                  refine ev_pV dM_readBehind_105 (r_is (M := M) hP hk hk2 (by decide)) lM_153 rec_M rfl (Nat.le_of_ble_eq_true rfl) rfl (Nat.le_of_ble_eq_true rfl) ?_
                  refine ev_if0 (tgt := 126) dM_readBehind_108 (by decide) (fun h108 => ?_) (fun h108 => ?_)
                  · simp only [zcond, zb0, Classical.not_not, Bool.not_eq_false, Bool.not_eq_true, decide_eq_true_eq, decide_eq_false_iff_not] at h108
                    refine ev_const (v := nI 0) dM_readBehind_126 (by decide) ?_
                    refine ev_ret dM_readBehind_127 rfl rfl ?_
                    refine rB_n (zSame.rf _ _) hB ?_
                    unfold aBeh
                    have g : ¬ (tMk t ts k = 43 ∨ tMk t ts k = 45 ∨ tMk t ts k = 42 ∨ (tMk t ts k = 44 ∧ aIn q.2 = true ∧ aTop q.2 ≠ 2)) := by
                      rintro (h | h | h | ⟨h, h', h''⟩)
                      · exact h33 h
                      · exact h43 h
                      · exact h53 h
                      · first | exact h63 h | exact h'' h72 | (rw [h'] at h67; cases h67)
                    have g2 : ¬ (tMk t ts k = 41 ∧ aIn q.2 = true) := by
                      rintro ⟨h, h'⟩
                      first | exact h89 h | (rw [h'] at h93; cases h93)
                    have g3 : ¬ (tMk t ts k = 59 ∧ aIn q.2 = false) := by
                      rintro ⟨h, h'⟩
                      first | exact h108 h | (rw [h'] at h112; cases h112)
                    rw [if_neg g, if_neg g2, if_neg g3]
                  · simp only [zcond, zb0, Classical.not_not, Bool.not_eq_false, Bool.not_eq_true, decide_eq_true_eq, decide_eq_false_iff_not] at h108
                    refine ev_il dM_readBehind_111 rfl (by first | assumption | rfl) ?_
                    refine ev_if0 (tgt := 126) dM_readBehind_112 (by decide) (fun h112 => ?_) (fun h112 => ?_)
                    · simp only [zcond, zb0, Classical.not_not, Bool.not_eq_false, Bool.not_eq_true] at h112
                      refine ev_const (v := nI 0) dM_readBehind_126 (by decide) ?_
                      refine ev_ret dM_readBehind_127 rfl rfl ?_
                      refine rB_n (zSame.rf _ _) hB ?_
                      unfold aBeh
                      have g : ¬ (tMk t ts k = 43 ∨ tMk t ts k = 45 ∨ tMk t ts k = 42 ∨ (tMk t ts k = 44 ∧ aIn q.2 = true ∧ aTop q.2 ≠ 2)) := by
                        rintro (h | h | h | ⟨h, h', h''⟩)
                        · exact h33 h
                        · exact h43 h
                        · exact h53 h
                        · first | exact h63 h | exact h'' h72 | (rw [h'] at h67; cases h67)
                      have g2 : ¬ (tMk t ts k = 41 ∧ aIn q.2 = true) := by
                        rintro ⟨h, h'⟩
                        first | exact h89 h | (rw [h'] at h93; cases h93)
                      have g3 : ¬ (tMk t ts k = 59 ∧ aIn q.2 = false) := by
                        rintro ⟨h, h'⟩
                        first | exact h108 h | (rw [h'] at h112; cases h112)
                      rw [if_neg g, if_neg g2, if_neg g3]
                    · simp only [zcond, zb0, Classical.not_not, Bool.not_eq_false, Bool.not_eq_true] at h112
                      refine ev_al dM_readBehind_115 rfl (by first | assumption | rfl) ?_
                      refine ev_al dM_readBehind_116 rfl (by first | assumption | rfl) ?_
                      refine ev_geti dM_readBehind_117 fM_143 rfl ?_
                      rw [hB.2.2.2.2.1]
                      refine ev_il dM_readBehind_120 rfl (by first | assumption | rfl) ?_
                      refine ev_cV dM_readBehind_121 (r_finish (j := B.1.2.2.2) (k := k) hP hO3 hq.2.1 hql hB.2.2.1 hB.2.2.2.1) lM_161 rec_M rfl (Nat.le_of_ble_eq_true rfl) rfl (Nat.le_of_ble_eq_true rfl) (fun z M5 hz => ?_)
                      obtain ⟨rfl, hM5⟩ := hz
                      refine ev_const (v := nI 1) dM_readBehind_124 (by decide) ?_
                      refine ev_ret dM_readBehind_125 rfl rfl ?_
                      rw [hM5]
                      refine rB_y (x := ((0, q.2), aFin B q.2.length B.1.2.2.2 k)) ((((zSame.rf sAB M).I (by unfold sAB; omega)).I (by unfold sAB; omega)).I (by unfold sAB; omega)) ?_ hB.fin ?_
                      · exact (hq.st (x := 0)).keep (by simp [zI_at]) (by simp [zI_at]) (fun i => by simp [zI_at])
                      · unfold aBeh
                        have g : ¬ (tMk t ts k = 43 ∨ tMk t ts k = 45 ∨ tMk t ts k = 42 ∨ (tMk t ts k = 44 ∧ aIn q.2 = true ∧ aTop q.2 ≠ 2)) := by omega
                        have g2 : ¬ (tMk t ts k = 41 ∧ aIn q.2 = true) := by omega
                        rw [if_neg g, if_neg g2, if_pos (And.intro h108 h112)]
                · simp only [zcond, zb0, Classical.not_not, Bool.not_eq_false, Bool.not_eq_true] at h93
                  refine ev_al dM_readBehind_96 rfl (by first | assumption | rfl) ?_
                  obtain ⟨x, o, ho⟩ := aIn_cons h93
                  have hq' : AQ M (q.1, x :: o) := by rw [← ho]; exact hq
                  refine ev_cV dM_readBehind_97 (r_close hP hq') lM_168 rec_M rfl (Nat.le_of_ble_eq_true rfl) rfl (Nat.le_of_ble_eq_true rfl) (fun z M1 hz => ?_)
                  obtain ⟨hs1, rfl, hA1⟩ := hz
                  refine ev_ret dM_readBehind_100 rfl rfl ?_
                  refine rB_y (x := (aClo q.2, B)) hs1.up ?_ (hs1.AB hB) ?_
                  · rw [ho]; exact hA1
                  · unfold aBeh
                    have g : ¬ (tMk t ts k = 43 ∨ tMk t ts k = 45 ∨ tMk t ts k = 42 ∨ (tMk t ts k = 44 ∧ aIn q.2 = true ∧ aTop q.2 ≠ 2)) := by omega
                    rw [if_neg g, if_pos (And.intro h89 h93)]
            · simp (disch := omega) only [zcond, nI_eq, Classical.not_not] at h72
              refine ev_al dM_readBehind_75 rfl (by first | assumption | rfl) ?_
              refine ev_const (v := nI 2) dM_readBehind_76 (by decide) ?_
              refine ev_puti dM_readBehind_77 fM_134 fwM_state rfl (vp_nar_int _) rfl ?_
              refine ev_const (v := nI 1) dM_readBehind_80 (by decide) ?_
              refine ev_ret dM_readBehind_81 rfl rfl ?_
              refine rB_y (x := ((2, q.2), B)) ((zSame.rf sAB M).I (by unfold sAB; omega)) hq.st hB.st ?_
              unfold aBeh
              have g : tMk t ts k = 43 ∨ tMk t ts k = 45 ∨ tMk t ts k = 42 ∨ (tMk t ts k = 44 ∧ aIn q.2 = true ∧ aTop q.2 ≠ 2) := by first | exact Or.inl h33 | exact Or.inr (Or.inl h43) | exact Or.inr (Or.inr (Or.inl h53)) | exact Or.inr (Or.inr (Or.inr ⟨h63, h67, h72⟩))
              rw [if_pos g]
set_option maxRecDepth 100000 in
set_option maxHeartbeats 4000000 in
theorem r_readBehind {e k : Nat} {t : Nat → Nat} {ts : List (Nat × Nat × Nat)} {q : Nat × List Nat} {B : aB} (hP : M.2.1 = zP0 n b) (hk : MTk M e t ts) (hk2 : k < ts.length) (hq : AQ M q) (hB : AB M B) (hO : aOk q B) : Ct Lx xs (d + 3) mM_readBehind [.ref 25, .int (nI k)] M (rB M B (aBeh (tMk t ts k) k q B)) := by
  unfold Ct
  have hO0 := hO
  have he := hk.1.2.1
  have hlen := hk.2.2.1.2.1
  obtain ⟨hq1, hq2, hq3⟩ := hk.2.1.2 k _ (tk_at hk2)
  have hkd : (tk ts k).2.2 < 5 := by have := hk.2.2.1.2.2.1 k _ (tk_at hk2); omega
  have hsg := hk.2.2.2 k hk2
  obtain ⟨hO1, hO2, hO3, hO4⟩ := hO
  have hql := hq.2.2.1
  have htop6 : aTop q.2 < 6 := by
    obtain ⟨a, l⟩ := q
    cases l with
    | nil => exact (by decide : 0 < 6)
    | cons y l => exact hq.2.2.2.2 y List.mem_cons_self
  refine ev_al dM_readBehind_0 rfl (by first | assumption | rfl) ?_
  refine ev_pV dM_readBehind_1 (r_top hP hq) lM_130 rec_M rfl (Nat.le_of_ble_eq_true rfl) rfl (Nat.le_of_ble_eq_true rfl) ?_
  refine ev_is dM_readBehind_4 rfl (Nat.le_of_ble_eq_true rfl) ?_
  refine ev_il dM_readBehind_5 rfl (by first | assumption | rfl) ?_
  refine ev_const (v := nI 2) dM_readBehind_6 (by decide) ?_
  refine ev_icmp (tgt := 20) dM_readBehind_7 (by decide) (fun h7 => ?_) (fun h7 => ?_)
  · simp (disch := omega) only [zcond, nI_eq, Classical.not_not] at h7
    refine ev_const (v := nI 1) dM_readBehind_20 (by decide) ?_
    refine ev_goto (tgt := 25) dM_readBehind_21 (by decide) ?_
    refine ev_is dM_readBehind_25 rfl (Nat.le_of_ble_eq_true rfl) ?_
    refine r_beh26 hP hk hk2 hq hB hO0 rfl rfl rfl ?_
    first
    | (rw [show aIn q.2 = true from decide_eq_true (by first | exact Or.inl h7 | exact Or.inr (Or.inl h12) | exact Or.inr (Or.inr h17))]; rfl)
    | (rw [show aIn q.2 = false from decide_eq_false (by rintro (h | h | h) <;> first | exact h7 h | exact h12 h | exact h17 h)]; rfl)
  · simp (disch := omega) only [zcond, nI_eq, Classical.not_not] at h7
    refine ev_il dM_readBehind_10 rfl (by first | assumption | rfl) ?_
    refine ev_const (v := nI 3) dM_readBehind_11 (by decide) ?_
    refine ev_icmp (tgt := 20) dM_readBehind_12 (by decide) (fun h12 => ?_) (fun h12 => ?_)
    · simp (disch := omega) only [zcond, nI_eq, Classical.not_not] at h12
      refine ev_const (v := nI 1) dM_readBehind_20 (by decide) ?_
      refine ev_goto (tgt := 25) dM_readBehind_21 (by decide) ?_
      refine ev_is dM_readBehind_25 rfl (Nat.le_of_ble_eq_true rfl) ?_
      refine r_beh26 hP hk hk2 hq hB hO0 rfl rfl rfl ?_
      first
      | (rw [show aIn q.2 = true from decide_eq_true (by first | exact Or.inl h7 | exact Or.inr (Or.inl h12) | exact Or.inr (Or.inr h17))]; rfl)
      | (rw [show aIn q.2 = false from decide_eq_false (by rintro (h | h | h) <;> first | exact h7 h | exact h12 h | exact h17 h)]; rfl)
    · simp (disch := omega) only [zcond, nI_eq, Classical.not_not] at h12
      refine ev_il dM_readBehind_15 rfl (by first | assumption | rfl) ?_
      refine ev_const (v := nI 5) dM_readBehind_16 (by decide) ?_
      refine ev_icmp (tgt := 24) dM_readBehind_17 (by decide) (fun h17 => ?_) (fun h17 => ?_)
      · simp (disch := omega) only [zcond, nI_eq, Classical.not_not] at h17
        refine ev_const (v := nI 0) dM_readBehind_24 (by decide) ?_
        refine ev_is dM_readBehind_25 rfl (Nat.le_of_ble_eq_true rfl) ?_
        refine r_beh26 hP hk hk2 hq hB hO0 rfl rfl rfl ?_
        first
        | (rw [show aIn q.2 = true from decide_eq_true (by first | exact Or.inl h7 | exact Or.inr (Or.inl h12) | exact Or.inr (Or.inr h17))]; rfl)
        | (rw [show aIn q.2 = false from decide_eq_false (by rintro (h | h | h) <;> first | exact h7 h | exact h12 h | exact h17 h)]; rfl)
      · simp (disch := omega) only [zcond, nI_eq, Classical.not_not] at h17
        refine ev_const (v := nI 1) dM_readBehind_20 (by decide) ?_
        refine ev_goto (tgt := 25) dM_readBehind_21 (by decide) ?_
        refine ev_is dM_readBehind_25 rfl (Nat.le_of_ble_eq_true rfl) ?_
        refine r_beh26 hP hk hk2 hq hB hO0 rfl rfl rfl ?_
        first
        | (rw [show aIn q.2 = true from decide_eq_true (by first | exact Or.inl h7 | exact Or.inr (Or.inl h12) | exact Or.inr (Or.inr h17))]; rfl)
        | (rw [show aIn q.2 = false from decide_eq_false (by rintro (h | h | h) <;> first | exact h7 h | exact h12 h | exact h17 h)]; rfl)
end
