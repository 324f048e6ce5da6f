/- the reference: compareTokens, oldOf, giveNumbers (rows laid by program) -/
def mvT (p g w : Nat) (q : Nat × Nat × Nat) : Option (Nat × Nat × Nat) := if q.1 + q.2.1 ≤ p then some q else if p + g ≤ q.1 then some (q.1 + w - g, q.2.1, q.2.2) else none
def imV (p g w : Nat) (ts1 : List (Nat × Nat × Nat)) (q : Nat × Nat × Nat) : Int32 := match mvT p g w q with
  | some x => tAt ts1 x ts1.length 0
  | none => -1
def imC (v : Nat → Int32) : Nat → Nat
  | 0 => 0
  | i + 1 => imC v i + (if v i < nI 0 then 0 else 1)
/-- the old tokens as the reference keeps them -/
def OTk (M : zM) (ts0 : List (Nat × Nat × Nat)) : Prop := M.1 25 9 = nI ts0.length ∧ ∀ i, i < ts0.length → M.1 31 i = nI (tk ts0 i).1 ∧ M.1 32 i = nI (tk ts0 i).2.1 ∧ M.1 33 i = nI (tk ts0 i).2.2
theorem imC_le (v : Nat → Int32) : ∀ i, imC v i ≤ i
  | 0 => Nat.le_refl 0
  | i + 1 => by
    have := imC_le v i
    unfold imC
    split <;> omega
section
variable {Lx : Nat} {xs : Nat → Int32} {d : Nat} {n b : Nat}
set_option maxRecDepth 100000 in
set_option maxHeartbeats 4000000 in
theorem r_cmp61 {M : zM} {e0 e1 p g w i c : Nat} {ts0 ts1 : List (Nat × Nat × Nat)} {bf bh : Bool} (hP : M.2.1 = zP0 n b) (hk1 : TkM M ts1) (ho1 : tsOk e1 ts1) (hO : OTk M ts0) (ho0 : tsOk e0 ts0) (hi : i < ts0.length) (hw : w ≤ 40) (hbf : bf = decide ((tk ts0 i).1 + (tk ts0 i).2.1 ≤ p)) (hbh : bh = decide (p + g ≤ (tk ts0 i).1)) {Q : zQ} {L : Nat → Value} (hL0 : L 0 = .ref 25) (hL1 : L 1 = .int (nI p)) (hL2 : L 2 = .int (nI g)) (hL3 : L 3 = .int (nI w - nI g)) (hL4 : L 4 = .int (nI c)) (hL5 : L 5 = .int (nI i)) (hL6 : L 6 = .int (nI bf.toNat)) (hL7 : L 7 = .int (nI bh.toNat)) (hK : ∀ L' : Nat → Value, L' 0 = .ref 25 → L' 1 = .int (nI p) → L' 2 = .int (nI g) → L' 3 = .int (nI w - nI g) → L' 4 = .int (nI (c + (if imV p g w ts1 (tk ts0 i) < nI 0 then 0 else 1))) → L' 5 = .int (nI (i + 1)) → Ev Lx xs (d + 1) mM_compareTokens 6 L' [] (zI M 34 i (imV p g w ts1 (tk ts0 i))) Q) : Ev Lx xs (d + 1) mM_compareTokens 61 L [] M Q := by
  have h160 : ts0.length ≤ 160 := Nat.le_trans ho0.2.1 ho0.1
  obtain ⟨h31, h32, h33⟩ := hO.2 i hi
  have hin := tV_in ho0 hi
  have hkd := ho0.2.2.1 i _ (tk_at hi)
  have he0 := ho0.1
  have hqb : (tk ts0 i).1 < 2 ^ 31 ∧ (tk ts0 i).2.1 < 2 ^ 31 ∧ (tk ts0 i).2.2 < 2 ^ 31 := by omega
  have hqc : ((tk ts0 i).1 + w - g, (tk ts0 i).2.1, (tk ts0 i).2.2).1 < 2 ^ 31 ∧ ((tk ts0 i).1 + w - g, (tk ts0 i).2.1, (tk ts0 i).2.2).2.1 < 2 ^ 31 ∧ ((tk ts0 i).1 + w - g, (tk ts0 i).2.1, (tk ts0 i).2.2).2.2 < 2 ^ 31 := ⟨by show (tk ts0 i).1 + w - g < 2 ^ 31; omega, hqb.2⟩
  cases bf with
  | true =>
    refine ev_il dM_compareTokens_61 rfl (by first | assumption | rfl) ?_
    refine ev_if0 (tgt := 76) dM_compareTokens_63 (by decide) (fun h63 => ?_) (fun h63 => ?_)
    · first | exact absurd (show ¬ nI true.toNat = nI 0 by decide) h63 | exact absurd (show nI true.toNat = nI 0 by decide) h63 | exact absurd h63 (show ¬ nI true.toNat = nI 0 by decide)
    · refine ev_al dM_compareTokens_66 rfl (by first | assumption | rfl) ?_
      refine ev_getrP dM_compareTokens_67 fM_26 rfl (zq (q := 31) hP rfl) ?_
      refine ev_il dM_compareTokens_70 rfl (by first | assumption | rfl) ?_
      refine ev_aldN dM_compareTokens_72 rfl rfl (by omega) ?_
      rw [h31]
      refine ev_goto (tgt := 85) dM_compareTokens_73 (by decide) ?_
      refine ev_is dM_compareTokens_85 rfl (Nat.le_of_ble_eq_true rfl) ?_
      refine ev_al dM_compareTokens_87 rfl (by first | assumption | rfl) ?_
      refine ev_getrP dM_compareTokens_88 fM_35 rfl (zq (q := 34) hP rfl) ?_
      refine ev_il dM_compareTokens_91 rfl (by first | assumption | rfl) ?_
      refine ev_il dM_compareTokens_93 rfl (by first | assumption | rfl) ?_
      refine ev_if0 (tgt := 103) dM_compareTokens_95 (by decide) (fun h95 => ?_) (fun h95 => ?_)
      · refine ev_al dM_compareTokens_103 rfl (by first | assumption | rfl) ?_
        refine ev_il dM_compareTokens_104 rfl (by first | assumption | rfl) ?_
        refine ev_al dM_compareTokens_106 rfl (by first | assumption | rfl) ?_
        refine ev_getrP dM_compareTokens_107 fM_29 rfl (zq (q := 32) hP rfl) ?_
        refine ev_il dM_compareTokens_110 rfl (by first | assumption | rfl) ?_
        refine ev_aldN dM_compareTokens_112 rfl rfl (by omega) ?_
        rw [h32]
        refine ev_al dM_compareTokens_113 rfl (by first | assumption | rfl) ?_
        refine ev_getrP dM_compareTokens_114 fM_32 rfl (zq (q := 33) hP rfl) ?_
        refine ev_il dM_compareTokens_117 rfl (by first | assumption | rfl) ?_
        refine ev_aldN dM_compareTokens_119 rfl rfl (by omega) ?_
        rw [h33]
        try rw [nI_more (by have hbh2 := of_decide_eq_true (hbh.symm.trans h100); omega)]
        first
        | refine ev_pV dM_compareTokens_120 (r_tokenAt (q := (tk ts0 i)) hP hk1 ho1 hqb) lM_235 rec_M rfl (Nat.le_of_ble_eq_true rfl) rfl (Nat.le_of_ble_eq_true rfl) ?_
        | refine ev_pV dM_compareTokens_120 (r_tokenAt (q := ((tk ts0 i).1 + w - g, (tk ts0 i).2.1, (tk ts0 i).2.2)) hP hk1 ho1 hqc) lM_235 rec_M rfl (Nat.le_of_ble_eq_true rfl) rfl (Nat.le_of_ble_eq_true rfl) ?_
        refine ev_goto (tgt := 127) dM_compareTokens_123 (by decide) ?_
        refine ev_iastN dM_compareTokens_127 rfl (by omega) ?_
        refine ev_al dM_compareTokens_128 rfl (by first | assumption | rfl) ?_
        refine ev_getrP dM_compareTokens_129 fM_35 rfl (zq (q := 34) hP rfl) ?_
        refine ev_il dM_compareTokens_132 rfl (by first | assumption | rfl) ?_
        refine ev_aldN dM_compareTokens_134 rfl rfl (by omega) ?_
        rw [zI_s]
        refine ev_if0 (tgt := 145) dM_compareTokens_135 (by decide) (fun h135 => ?_) (fun h135 => ?_)
        · simp only [zcond] at h135
          refine ev_il dM_compareTokens_145 rfl (by first | assumption | rfl) ?_
          refine ev_is dM_compareTokens_147 rfl (Nat.le_of_ble_eq_true rfl) ?_
          refine ev_inc1 dM_compareTokens_149 (by first | assumption | rfl) ?_
          refine ev_goto (tgt := 6) dM_compareTokens_152 (by decide) ?_
          first
          | (have hv : imV p g w ts1 (tk ts0 i) = tAt ts1 (tk ts0 i) ts1.length 0 := by
               unfold imV mvT
               rw [if_pos (of_decide_eq_true hbf.symm)]
             rw [hv] at hK
             first
             | (rw [if_pos h135] at hK; exact hK _ (by first | assumption | rfl) (by first | assumption | rfl) (by first | assumption | rfl) (by first | assumption | rfl) (by first | assumption | rfl) rfl)
             | (rw [if_neg h135] at hK; exact hK _ (by first | assumption | rfl) (by first | assumption | rfl) (by first | assumption | rfl) (by first | assumption | rfl) (by first | assumption | rfl) rfl))
        · simp only [zcond] at h135
          refine ev_il dM_compareTokens_138 rfl (by first | assumption | rfl) ?_
          refine ev_const (v := nI 1) dM_compareTokens_140 (by decide) ?_
          first | with_reducible refine ev_addN dM_compareTokens_141 ?_ | refine ev_add dM_compareTokens_141 ?_
          refine ev_goto (tgt := 147) dM_compareTokens_142 (by decide) ?_
          refine ev_is dM_compareTokens_147 rfl (Nat.le_of_ble_eq_true rfl) ?_
          refine ev_inc1 dM_compareTokens_149 (by first | assumption | rfl) ?_
          refine ev_goto (tgt := 6) dM_compareTokens_152 (by decide) ?_
          first
          | (have hv : imV p g w ts1 (tk ts0 i) = tAt ts1 (tk ts0 i) ts1.length 0 := by
               unfold imV mvT
               rw [if_pos (of_decide_eq_true hbf.symm)]
             rw [hv] at hK
             first
             | (rw [if_pos h135] at hK; exact hK _ (by first | assumption | rfl) (by first | assumption | rfl) (by first | assumption | rfl) (by first | assumption | rfl) (by first | assumption | rfl) rfl)
             | (rw [if_neg h135] at hK; exact hK _ (by first | assumption | rfl) (by first | assumption | rfl) (by first | assumption | rfl) (by first | assumption | rfl) (by first | assumption | rfl) rfl))
      · first | exact absurd (show ¬ nI true.toNat = nI 0 by decide) h95 | exact absurd (show nI true.toNat = nI 0 by decide) h95 | exact absurd h95 (show ¬ nI true.toNat = nI 0 by decide)
  | false =>
    refine ev_il dM_compareTokens_61 rfl (by first | assumption | rfl) ?_
    refine ev_if0 (tgt := 76) dM_compareTokens_63 (by decide) (fun h63 => ?_) (fun h63 => ?_)
    · refine ev_al dM_compareTokens_76 rfl (by first | assumption | rfl) ?_
      refine ev_getrP dM_compareTokens_77 fM_26 rfl (zq (q := 31) hP rfl) ?_
      refine ev_il dM_compareTokens_80 rfl (by first | assumption | rfl) ?_
      refine ev_aldN dM_compareTokens_82 rfl rfl (by omega) ?_
      rw [h31]
      refine ev_il dM_compareTokens_83 rfl (by first | assumption | rfl) ?_
      refine ev_add dM_compareTokens_84 ?_
      refine ev_is dM_compareTokens_85 rfl (Nat.le_of_ble_eq_true rfl) ?_
      refine ev_al dM_compareTokens_87 rfl (by first | assumption | rfl) ?_
      refine ev_getrP dM_compareTokens_88 fM_35 rfl (zq (q := 34) hP rfl) ?_
      refine ev_il dM_compareTokens_91 rfl (by first | assumption | rfl) ?_
      refine ev_il dM_compareTokens_93 rfl (by first | assumption | rfl) ?_
      refine ev_if0 (tgt := 103) dM_compareTokens_95 (by decide) (fun h95 => ?_) (fun h95 => ?_)
      · first | exact absurd (show ¬ nI false.toNat = nI 0 by decide) h95 | exact absurd (show nI false.toNat = nI 0 by decide) h95 | exact absurd h95 (show ¬ nI false.toNat = nI 0 by decide)
      · refine ev_il dM_compareTokens_98 rfl (by first | assumption | rfl) ?_
        refine ev_if0 (tgt := 126) dM_compareTokens_100 (by decide) (fun h100 => ?_) (fun h100 => ?_)
        · simp only [zcond, zb0, Classical.not_not, Bool.not_eq_false, Bool.not_eq_true] at h100
          refine ev_const (v := -1) dM_compareTokens_126 (by decide) ?_
          refine ev_iastN dM_compareTokens_127 rfl (by omega) ?_
          refine ev_al dM_compareTokens_128 rfl (by first | assumption | rfl) ?_
          refine ev_getrP dM_compareTokens_129 fM_35 rfl (zq (q := 34) hP rfl) ?_
          refine ev_il dM_compareTokens_132 rfl (by first | assumption | rfl) ?_
          refine ev_aldN dM_compareTokens_134 rfl rfl (by omega) ?_
          rw [zI_s]
          refine ev_if0 (tgt := 145) dM_compareTokens_135 (by decide) (fun h135 => ?_) (fun h135 => ?_)
          · simp only [zcond] at h135
            refine ev_il dM_compareTokens_145 rfl (by first | assumption | rfl) ?_
            refine ev_is dM_compareTokens_147 rfl (Nat.le_of_ble_eq_true rfl) ?_
            refine ev_inc1 dM_compareTokens_149 (by first | assumption | rfl) ?_
            refine ev_goto (tgt := 6) dM_compareTokens_152 (by decide) ?_
            first
            | (have hv : imV p g w ts1 (tk ts0 i) = tAt ts1 ((tk ts0 i).1 + w - g, (tk ts0 i).2.1, (tk ts0 i).2.2) ts1.length 0 := by
                 unfold imV mvT
                 rw [if_neg (of_decide_eq_false hbf.symm), if_pos (of_decide_eq_true (hbh.symm.trans h100))]
               rw [hv] at hK
               first
               | (rw [if_pos h135] at hK; exact hK _ (by first | assumption | rfl) (by first | assumption | rfl) (by first | assumption | rfl) (by first | assumption | rfl) (by first | assumption | rfl) rfl)
               | (rw [if_neg h135] at hK; exact hK _ (by first | assumption | rfl) (by first | assumption | rfl) (by first | assumption | rfl) (by first | assumption | rfl) (by first | assumption | rfl) rfl))
            | (have hv : imV p g w ts1 (tk ts0 i) = -1 := by
                 unfold imV mvT
                 rw [if_neg (of_decide_eq_false hbf.symm), if_neg (of_decide_eq_false (hbh.symm.trans h100))]
               rw [hv] at hK
               first
               | (rw [if_pos h135] at hK; exact hK _ (by first | assumption | rfl) (by first | assumption | rfl) (by first | assumption | rfl) (by first | assumption | rfl) (by first | assumption | rfl) rfl)
               | (rw [if_neg h135] at hK; exact hK _ (by first | assumption | rfl) (by first | assumption | rfl) (by first | assumption | rfl) (by first | assumption | rfl) (by first | assumption | rfl) rfl))
          · simp only [zcond] at h135
            refine ev_il dM_compareTokens_138 rfl (by first | assumption | rfl) ?_
            refine ev_const (v := nI 1) dM_compareTokens_140 (by decide) ?_
            first | with_reducible refine ev_addN dM_compareTokens_141 ?_ | refine ev_add dM_compareTokens_141 ?_
            refine ev_goto (tgt := 147) dM_compareTokens_142 (by decide) ?_
            refine ev_is dM_compareTokens_147 rfl (Nat.le_of_ble_eq_true rfl) ?_
            refine ev_inc1 dM_compareTokens_149 (by first | assumption | rfl) ?_
            refine ev_goto (tgt := 6) dM_compareTokens_152 (by decide) ?_
            first
            | (have hv : imV p g w ts1 (tk ts0 i) = tAt ts1 ((tk ts0 i).1 + w - g, (tk ts0 i).2.1, (tk ts0 i).2.2) ts1.length 0 := by
                 unfold imV mvT
                 rw [if_neg (of_decide_eq_false hbf.symm), if_pos (of_decide_eq_true (hbh.symm.trans h100))]
               rw [hv] at hK
               first
               | (rw [if_pos h135] at hK; exact hK _ (by first | assumption | rfl) (by first | assumption | rfl) (by first | assumption | rfl) (by first | assumption | rfl) (by first | assumption | rfl) rfl)
               | (rw [if_neg h135] at hK; exact hK _ (by first | assumption | rfl) (by first | assumption | rfl) (by first | assumption | rfl) (by first | assumption | rfl) (by first | assumption | rfl) rfl))
            | (have hv : imV p g w ts1 (tk ts0 i) = -1 := by
                 unfold imV mvT
                 rw [if_neg (of_decide_eq_false hbf.symm), if_neg (of_decide_eq_false (hbh.symm.trans h100))]
               rw [hv] at hK
               first
               | (rw [if_pos h135] at hK; exact hK _ (by first | assumption | rfl) (by first | assumption | rfl) (by first | assumption | rfl) (by first | assumption | rfl) (by first | assumption | rfl) rfl)
               | (rw [if_neg h135] at hK; exact hK _ (by first | assumption | rfl) (by first | assumption | rfl) (by first | assumption | rfl) (by first | assumption | rfl) (by first | assumption | rfl) rfl))
        · simp only [zcond, zb0, Classical.not_not, Bool.not_eq_false, Bool.not_eq_true] at h100
          refine ev_al dM_compareTokens_103 rfl (by first | assumption | rfl) ?_
          refine ev_il dM_compareTokens_104 rfl (by first | assumption | rfl) ?_
          refine ev_al dM_compareTokens_106 rfl (by first | assumption | rfl) ?_
          refine ev_getrP dM_compareTokens_107 fM_29 rfl (zq (q := 32) hP rfl) ?_
          refine ev_il dM_compareTokens_110 rfl (by first | assumption | rfl) ?_
          refine ev_aldN dM_compareTokens_112 rfl rfl (by omega) ?_
          rw [h32]
          refine ev_al dM_compareTokens_113 rfl (by first | assumption | rfl) ?_
          refine ev_getrP dM_compareTokens_114 fM_32 rfl (zq (q := 33) hP rfl) ?_
          refine ev_il dM_compareTokens_117 rfl (by first | assumption | rfl) ?_
          refine ev_aldN dM_compareTokens_119 rfl rfl (by omega) ?_
          rw [h33]
          try rw [nI_more (by have hbh2 := of_decide_eq_true (hbh.symm.trans h100); omega)]
          first
          | refine ev_pV dM_compareTokens_120 (r_tokenAt (q := (tk ts0 i)) hP hk1 ho1 hqb) lM_235 rec_M rfl (Nat.le_of_ble_eq_true rfl) rfl (Nat.le_of_ble_eq_true rfl) ?_
          | refine ev_pV dM_compareTokens_120 (r_tokenAt (q := ((tk ts0 i).1 + w - g, (tk ts0 i).2.1, (tk ts0 i).2.2)) hP hk1 ho1 hqc) lM_235 rec_M rfl (Nat.le_of_ble_eq_true rfl) rfl (Nat.le_of_ble_eq_true rfl) ?_
          refine ev_goto (tgt := 127) dM_compareTokens_123 (by decide) ?_
          refine ev_iastN dM_compareTokens_127 rfl (by omega) ?_
          refine ev_al dM_compareTokens_128 rfl (by first | assumption | rfl) ?_
          refine ev_getrP dM_compareTokens_129 fM_35 rfl (zq (q := 34) hP rfl) ?_
          refine ev_il dM_compareTokens_132 rfl (by first | assumption | rfl) ?_
          refine ev_aldN dM_compareTokens_134 rfl rfl (by omega) ?_
          rw [zI_s]
          refine ev_if0 (tgt := 145) dM_compareTokens_135 (by decide) (fun h135 => ?_) (fun h135 => ?_)
          · simp only [zcond] at h135
            refine ev_il dM_compareTokens_145 rfl (by first | assumption | rfl) ?_
            refine ev_is dM_compareTokens_147 rfl (Nat.le_of_ble_eq_true rfl) ?_
            refine ev_inc1 dM_compareTokens_149 (by first | assumption | rfl) ?_
            refine ev_goto (tgt := 6) dM_compareTokens_152 (by decide) ?_
            first
            | (have hv : imV p g w ts1 (tk ts0 i) = tAt ts1 ((tk ts0 i).1 + w - g, (tk ts0 i).2.1, (tk ts0 i).2.2) ts1.length 0 := by
                 unfold imV mvT
                 rw [if_neg (of_decide_eq_false hbf.symm), if_pos (of_decide_eq_true (hbh.symm.trans h100))]
               rw [hv] at hK
               first
               | (rw [if_pos h135] at hK; exact hK _ (by first | assumption | rfl) (by first | assumption | rfl) (by first | assumption | rfl) (by first | assumption | rfl) (by first | assumption | rfl) rfl)
               | (rw [if_neg h135] at hK; exact hK _ (by first | assumption | rfl) (by first | assumption | rfl) (by first | assumption | rfl) (by first | assumption | rfl) (by first | assumption | rfl) rfl))
            | (have hv : imV p g w ts1 (tk ts0 i) = -1 := by
                 unfold imV mvT
                 rw [if_neg (of_decide_eq_false hbf.symm), if_neg (of_decide_eq_false (hbh.symm.trans h100))]
               rw [hv] at hK
               first
               | (rw [if_pos h135] at hK; exact hK _ (by first | assumption | rfl) (by first | assumption | rfl) (by first | assumption | rfl) (by first | assumption | rfl) (by first | assumption | rfl) rfl)
               | (rw [if_neg h135] at hK; exact hK _ (by first | assumption | rfl) (by first | assumption | rfl) (by first | assumption | rfl) (by first | assumption | rfl) (by first | assumption | rfl) rfl))
          · simp only [zcond] at h135
            refine ev_il dM_compareTokens_138 rfl (by first | assumption | rfl) ?_
            refine ev_const (v := nI 1) dM_compareTokens_140 (by decide) ?_
            first | with_reducible refine ev_addN dM_compareTokens_141 ?_ | refine ev_add dM_compareTokens_141 ?_
            refine ev_goto (tgt := 147) dM_compareTokens_142 (by decide) ?_
            refine ev_is dM_compareTokens_147 rfl (Nat.le_of_ble_eq_true rfl) ?_
            refine ev_inc1 dM_compareTokens_149 (by first | assumption | rfl) ?_
            refine ev_goto (tgt := 6) dM_compareTokens_152 (by decide) ?_
            first
            | (have hv : imV p g w ts1 (tk ts0 i) = tAt ts1 ((tk ts0 i).1 + w - g, (tk ts0 i).2.1, (tk ts0 i).2.2) ts1.length 0 := by
                 unfold imV mvT
                 rw [if_neg (of_decide_eq_false hbf.symm), if_pos (of_decide_eq_true (hbh.symm.trans h100))]
               rw [hv] at hK
               first
               | (rw [if_pos h135] at hK; exact hK _ (by first | assumption | rfl) (by first | assumption | rfl) (by first | assumption | rfl) (by first | assumption | rfl) (by first | assumption | rfl) rfl)
               | (rw [if_neg h135] at hK; exact hK _ (by first | assumption | rfl) (by first | assumption | rfl) (by first | assumption | rfl) (by first | assumption | rfl) (by first | assumption | rfl) rfl))
            | (have hv : imV p g w ts1 (tk ts0 i) = -1 := by
                 unfold imV mvT
                 rw [if_neg (of_decide_eq_false hbf.symm), if_neg (of_decide_eq_false (hbh.symm.trans h100))]
               rw [hv] at hK
               first
               | (rw [if_pos h135] at hK; exact hK _ (by first | assumption | rfl) (by first | assumption | rfl) (by first | assumption | rfl) (by first | assumption | rfl) (by first | assumption | rfl) rfl)
               | (rw [if_neg h135] at hK; exact hK _ (by first | assumption | rfl) (by first | assumption | rfl) (by first | assumption | rfl) (by first | assumption | rfl) (by first | assumption | rfl) rfl))
    · first | exact absurd (show ¬ nI false.toNat = nI 0 by decide) h63 | exact absurd (show nI false.toNat = nI 0 by decide) h63 | exact absurd h63 (show ¬ nI false.toNat = nI 0 by decide)
theorem zSame.TkM {M M' : zM} {ts : List (Nat × Nat × Nat)} (h : zSame (fun o _ => o = 34) M M') (hk : TkM M ts) : TkM M' ts :=
  ⟨(h.2 _ _ (by omega)).trans hk.1, fun k q hq => ⟨(h.2 _ _ (by omega)).trans (hk.2 k q hq).1, (h.2 _ _ (by omega)).trans (hk.2 k q hq).2.1, (h.2 _ _ (by omega)).trans (hk.2 k q hq).2.2⟩⟩
theorem zSame.OTk {M M' : zM} {ts : List (Nat × Nat × Nat)} (h : zSame (fun o _ => o = 34) M M') (hk : OTk M ts) : OTk M' ts :=
  ⟨(h.2 _ _ (by omega)).trans hk.1, fun k hq => ⟨(h.2 _ _ (by omega)).trans (hk.2 k hq).1, (h.2 _ _ (by omega)).trans (hk.2 k hq).2.1, (h.2 _ _ (by omega)).trans (hk.2 k hq).2.2⟩⟩
set_option maxRecDepth 100000 in
set_option maxHeartbeats 4000000 in
theorem r_cmpL {e0 e1 p g w : Nat} {ts0 ts1 : List (Nat × Nat × Nat)} (ho1 : tsOk e1 ts1) (ho0 : tsOk e0 ts0) (hw : w ≤ 40) (hp : p ≤ 160) (hg : g ≤ 160) {R : Option Int32 → zM → Prop} : ∀ (f i : Nat) (M : zM) (L : Nat → Value), i + f = ts0.length → M.2.1 = zP0 n b → TkM M ts1 → OTk M ts0 → (∀ j, j < i → M.1 34 j = imV p g w ts1 (tk ts0 j)) → L 0 = .ref 25 → L 1 = .int (nI p) → L 2 = .int (nI g) → L 3 = .int (nI w - nI g) → L 4 = .int (nI (imC (fun j => imV p g w ts1 (tk ts0 j)) i)) → L 5 = .int (nI i) → (∀ M', zSame (fun o _ => o = 34) M M' → (∀ j, j < ts0.length → M'.1 34 j = imV p g w ts1 (tk ts0 j)) → R (some (nI (imC (fun j => imV p g w ts1 (tk ts0 j)) ts0.length))) M') → Ev Lx xs (d + 1) mM_compareTokens 6 L [] M (zpost mM_compareTokens R) := by
  have h160 : ts0.length ≤ 160 := Nat.le_trans ho0.2.1 ho0.1
  intro f
  induction f with
  | zero =>
    intro i M L hf hP hk1 hO hv hL0 hL1 hL2 hL3 hL4 hL5 hR
    refine ev_il dM_compareTokens_6 rfl (by first | assumption | rfl) ?_
    refine ev_al dM_compareTokens_8 rfl (by first | assumption | rfl) ?_
    refine ev_geti dM_compareTokens_9 fM_229 rfl ?_
    rw [hO.1]
    refine ev_icmp (tgt := 155) dM_compareTokens_12 (by decide) (fun h12 => ?_) (fun h12 => ?_)
    · try simp (disch := omega) only [zcond, nI_ltI, nI_leI, nI_eq, zb0, Classical.not_not, Bool.not_eq_false, Bool.not_eq_true, Nat.not_lt, Nat.not_le] at h12
      refine ev_il dM_compareTokens_155 rfl (by first | assumption | rfl) ?_
      refine ev_ret dM_compareTokens_157 rfl rfl ?_
      obtain rfl : i = ts0.length := by omega
      exact hR M (zSame.rf _ _) hv
    · first | omega | (simp (disch := omega) only [zcond, nI_ltI, nI_leI, nI_eq] at h12; omega)
  | succ f ih =>
    intro i M L hf hP hk1 hO hv hL0 hL1 hL2 hL3 hL4 hL5 hR
    refine ev_il dM_compareTokens_6 rfl (by first | assumption | rfl) ?_
    refine ev_al dM_compareTokens_8 rfl (by first | assumption | rfl) ?_
    refine ev_geti dM_compareTokens_9 fM_229 rfl ?_
    rw [hO.1]
    refine ev_icmp (tgt := 155) dM_compareTokens_12 (by decide) (fun h12 => ?_) (fun h12 => ?_)
    · first | omega | (simp (disch := omega) only [zcond, nI_ltI, nI_leI, nI_eq] at h12; omega)
    · try simp (disch := omega) only [zcond, nI_ltI, nI_leI, nI_eq, zb0, Classical.not_not, Bool.not_eq_false, Bool.not_eq_true, Nat.not_lt, Nat.not_le] at h12
      have hin := tV_in ho0 (show i < ts0.length by omega)
      have he0 := ho0.1
      refine ev_al dM_compareTokens_15 rfl (by first | assumption | rfl) ?_
      refine ev_getrP dM_compareTokens_16 fM_26 rfl (zq (q := 31) hP rfl) ?_
      refine ev_il dM_compareTokens_19 rfl (by first | assumption | rfl) ?_
      refine ev_aldN dM_compareTokens_21 rfl rfl (by omega) ?_
      rw [(hO.2 i (by omega)).1]
      refine ev_al dM_compareTokens_22 rfl (by first | assumption | rfl) ?_
      refine ev_getrP dM_compareTokens_23 fM_29 rfl (zq (q := 32) hP rfl) ?_
      refine ev_il dM_compareTokens_26 rfl (by first | assumption | rfl) ?_
      refine ev_aldN dM_compareTokens_28 rfl rfl (by omega) ?_
      rw [(hO.2 i (by omega)).2.1]
      first | with_reducible refine ev_addN dM_compareTokens_29 ?_ | refine ev_add dM_compareTokens_29 ?_
      refine ev_il dM_compareTokens_30 rfl (by first | assumption | rfl) ?_
      refine ev_icmp (tgt := 38) dM_compareTokens_31 (by decide) (fun h31 => ?_) (fun h31 => ?_)
      · try simp (disch := omega) only [zcond, nI_ltI, nI_leI, nI_eq, zb0, Classical.not_not, Bool.not_eq_false, Bool.not_eq_true, Nat.not_lt, Nat.not_le] at h31
        refine ev_const (v := nI 0) dM_compareTokens_38 (by decide) ?_
        refine ev_is dM_compareTokens_39 rfl (Nat.le_of_ble_eq_true rfl) ?_
        refine ev_al dM_compareTokens_41 rfl (by first | assumption | rfl) ?_
        refine ev_getrP dM_compareTokens_42 fM_26 rfl (zq (q := 31) hP rfl) ?_
        refine ev_il dM_compareTokens_45 rfl (by first | assumption | rfl) ?_
        refine ev_aldN dM_compareTokens_47 rfl rfl (by omega) ?_
        rw [(hO.2 i (by omega)).1]
        refine ev_il dM_compareTokens_48 rfl (by first | assumption | rfl) ?_
        refine ev_il dM_compareTokens_49 rfl (by first | assumption | rfl) ?_
        first | with_reducible refine ev_addN dM_compareTokens_50 ?_ | refine ev_add dM_compareTokens_50 ?_
        refine ev_icmp (tgt := 58) dM_compareTokens_51 (by decide) (fun h51 => ?_) (fun h51 => ?_)
        · try simp (disch := omega) only [zcond, nI_ltI, nI_leI, nI_eq, zb0, Classical.not_not, Bool.not_eq_false, Bool.not_eq_true, Nat.not_lt, Nat.not_le] at h51
          refine ev_const (v := nI 0) dM_compareTokens_58 (by decide) ?_
          refine ev_is dM_compareTokens_59 rfl (Nat.le_of_ble_eq_true rfl) ?_
          first
          | (
             refine r_cmp61 (i := i) (p := p) (g := g) (w := w) (bf := true) (bh := true) hP hk1 ho1 hO ho0 (by omega) hw (decide_eq_true (by omega)).symm (decide_eq_true (by omega)).symm (by first | assumption | rfl) (by first | assumption | rfl) (by first | assumption | rfl) (by first | assumption | rfl) (by first | assumption | rfl) (by first | assumption | rfl) rfl rfl ?_
             intro L' a0 a1 a2 a3 a4 a5
             refine ih (i + 1) _ L' (by omega) hP ((zSame.I (S := fun o _ => o = 34) (zSame.rf _ M) rfl).TkM hk1) ((zSame.I (S := fun o _ => o = 34) (zSame.rf _ M) rfl).OTk hO) (fun j hj => ?_) a0 a1 a2 a3 a4 a5 ?_
             · by_cases hji : j = i
               · subst hji; exact zI_s _ _ _ _
               · exact (zI_k hji).trans (hv j (by omega))
             · intro M' hs hv'
               exact hR M' ((zSame.I (S := fun o _ => o = 34) (zSame.rf _ M) rfl).tr hs) hv')
          | (
             refine r_cmp61 (i := i) (p := p) (g := g) (w := w) (bf := true) (bh := false) hP hk1 ho1 hO ho0 (by omega) hw (decide_eq_true (by omega)).symm (decide_eq_false (by omega)).symm (by first | assumption | rfl) (by first | assumption | rfl) (by first | assumption | rfl) (by first | assumption | rfl) (by first | assumption | rfl) (by first | assumption | rfl) rfl rfl ?_
             intro L' a0 a1 a2 a3 a4 a5
             refine ih (i + 1) _ L' (by omega) hP ((zSame.I (S := fun o _ => o = 34) (zSame.rf _ M) rfl).TkM hk1) ((zSame.I (S := fun o _ => o = 34) (zSame.rf _ M) rfl).OTk hO) (fun j hj => ?_) a0 a1 a2 a3 a4 a5 ?_
             · by_cases hji : j = i
               · subst hji; exact zI_s _ _ _ _
               · exact (zI_k hji).trans (hv j (by omega))
             · intro M' hs hv'
               exact hR M' ((zSame.I (S := fun o _ => o = 34) (zSame.rf _ M) rfl).tr hs) hv')
          | (
             refine r_cmp61 (i := i) (p := p) (g := g) (w := w) (bf := false) (bh := true) hP hk1 ho1 hO ho0 (by omega) hw (decide_eq_false (by omega)).symm (decide_eq_true (by omega)).symm (by first | assumption | rfl) (by first | assumption | rfl) (by first | assumption | rfl) (by first | assumption | rfl) (by first | assumption | rfl) (by first | assumption | rfl) rfl rfl ?_
             intro L' a0 a1 a2 a3 a4 a5
             refine ih (i + 1) _ L' (by omega) hP ((zSame.I (S := fun o _ => o = 34) (zSame.rf _ M) rfl).TkM hk1) ((zSame.I (S := fun o _ => o = 34) (zSame.rf _ M) rfl).OTk hO) (fun j hj => ?_) a0 a1 a2 a3 a4 a5 ?_
             · by_cases hji : j = i
               · subst hji; exact zI_s _ _ _ _
               · exact (zI_k hji).trans (hv j (by omega))
             · intro M' hs hv'
               exact hR M' ((zSame.I (S := fun o _ => o = 34) (zSame.rf _ M) rfl).tr hs) hv')
          | (
             refine r_cmp61 (i := i) (p := p) (g := g) (w := w) (bf := false) (bh := false) hP hk1 ho1 hO ho0 (by omega) hw (decide_eq_false (by omega)).symm (decide_eq_false (by omega)).symm (by first | assumption | rfl) (by first | assumption | rfl) (by first | assumption | rfl) (by first | assumption | rfl) (by first | assumption | rfl) (by first | assumption | rfl) rfl rfl ?_
             intro L' a0 a1 a2 a3 a4 a5
             refine ih (i + 1) _ L' (by omega) hP ((zSame.I (S := fun o _ => o = 34) (zSame.rf _ M) rfl).TkM hk1) ((zSame.I (S := fun o _ => o = 34) (zSame.rf _ M) rfl).OTk hO) (fun j hj => ?_) a0 a1 a2 a3 a4 a5 ?_
             · by_cases hji : j = i
               · subst hji; exact zI_s _ _ _ _
               · exact (zI_k hji).trans (hv j (by omega))
             · intro M' hs hv'
               exact hR M' ((zSame.I (S := fun o _ => o = 34) (zSame.rf _ M) rfl).tr hs) hv')
        · try simp (disch := omega) only [zcond, nI_ltI, nI_leI, nI_eq, zb0, Classical.not_not, Bool.not_eq_false, Bool.not_eq_true, Nat.not_lt, Nat.not_le] at h51
          refine ev_const (v := nI 1) dM_compareTokens_54 (by decide) ?_
          refine ev_goto (tgt := 59) dM_compareTokens_55 (by decide) ?_
          refine ev_is dM_compareTokens_59 rfl (Nat.le_of_ble_eq_true rfl) ?_
          first
          | (
             refine r_cmp61 (i := i) (p := p) (g := g) (w := w) (bf := true) (bh := true) hP hk1 ho1 hO ho0 (by omega) hw (decide_eq_true (by omega)).symm (decide_eq_true (by omega)).symm (by first | assumption | rfl) (by first | assumption | rfl) (by first | assumption | rfl) (by first | assumption | rfl) (by first | assumption | rfl) (by first | assumption | rfl) rfl rfl ?_
             intro L' a0 a1 a2 a3 a4 a5
             refine ih (i + 1) _ L' (by omega) hP ((zSame.I (S := fun o _ => o = 34) (zSame.rf _ M) rfl).TkM hk1) ((zSame.I (S := fun o _ => o = 34) (zSame.rf _ M) rfl).OTk hO) (fun j hj => ?_) a0 a1 a2 a3 a4 a5 ?_
             · by_cases hji : j = i
               · subst hji; exact zI_s _ _ _ _
               · exact (zI_k hji).trans (hv j (by omega))
             · intro M' hs hv'
               exact hR M' ((zSame.I (S := fun o _ => o = 34) (zSame.rf _ M) rfl).tr hs) hv')
          | (
             refine r_cmp61 (i := i) (p := p) (g := g) (w := w) (bf := true) (bh := false) hP hk1 ho1 hO ho0 (by omega) hw (decide_eq_true (by omega)).symm (decide_eq_false (by omega)).symm (by first | assumption | rfl) (by first | assumption | rfl) (by first | assumption | rfl) (by first | assumption | rfl) (by first | assumption | rfl) (by first | assumption | rfl) rfl rfl ?_
             intro L' a0 a1 a2 a3 a4 a5
             refine ih (i + 1) _ L' (by omega) hP ((zSame.I (S := fun o _ => o = 34) (zSame.rf _ M) rfl).TkM hk1) ((zSame.I (S := fun o _ => o = 34) (zSame.rf _ M) rfl).OTk hO) (fun j hj => ?_) a0 a1 a2 a3 a4 a5 ?_
             · by_cases hji : j = i
               · subst hji; exact zI_s _ _ _ _
               · exact (zI_k hji).trans (hv j (by omega))
             · intro M' hs hv'
               exact hR M' ((zSame.I (S := fun o _ => o = 34) (zSame.rf _ M) rfl).tr hs) hv')
          | (
             refine r_cmp61 (i := i) (p := p) (g := g) (w := w) (bf := false) (bh := true) hP hk1 ho1 hO ho0 (by omega) hw (decide_eq_false (by omega)).symm (decide_eq_true (by omega)).symm (by first | assumption | rfl) (by first | assumption | rfl) (by first | assumption | rfl) (by first | assumption | rfl) (by first | assumption | rfl) (by first | assumption | rfl) rfl rfl ?_
             intro L' a0 a1 a2 a3 a4 a5
             refine ih (i + 1) _ L' (by omega) hP ((zSame.I (S := fun o _ => o = 34) (zSame.rf _ M) rfl).TkM hk1) ((zSame.I (S := fun o _ => o = 34) (zSame.rf _ M) rfl).OTk hO) (fun j hj => ?_) a0 a1 a2 a3 a4 a5 ?_
             · by_cases hji : j = i
               · subst hji; exact zI_s _ _ _ _
               · exact (zI_k hji).trans (hv j (by omega))
             · intro M' hs hv'
               exact hR M' ((zSame.I (S := fun o _ => o = 34) (zSame.rf _ M) rfl).tr hs) hv')
          | (
             refine r_cmp61 (i := i) (p := p) (g := g) (w := w) (bf := false) (bh := false) hP hk1 ho1 hO ho0 (by omega) hw (decide_eq_false (by omega)).symm (decide_eq_false (by omega)).symm (by first | assumption | rfl) (by first | assumption | rfl) (by first | assumption | rfl) (by first | assumption | rfl) (by first | assumption | rfl) (by first | assumption | rfl) rfl rfl ?_
             intro L' a0 a1 a2 a3 a4 a5
             refine ih (i + 1) _ L' (by omega) hP ((zSame.I (S := fun o _ => o = 34) (zSame.rf _ M) rfl).TkM hk1) ((zSame.I (S := fun o _ => o = 34) (zSame.rf _ M) rfl).OTk hO) (fun j hj => ?_) a0 a1 a2 a3 a4 a5 ?_
             · by_cases hji : j = i
               · subst hji; exact zI_s _ _ _ _
               · exact (zI_k hji).trans (hv j (by omega))
             · intro M' hs hv'
               exact hR M' ((zSame.I (S := fun o _ => o = 34) (zSame.rf _ M) rfl).tr hs) hv')
      · try simp (disch := omega) only [zcond, nI_ltI, nI_leI, nI_eq, zb0, Classical.not_not, Bool.not_eq_false, Bool.not_eq_true, Nat.not_lt, Nat.not_le] at h31
        refine ev_const (v := nI 1) dM_compareTokens_34 (by decide) ?_
        refine ev_goto (tgt := 39) dM_compareTokens_35 (by decide) ?_
        refine ev_is dM_compareTokens_39 rfl (Nat.le_of_ble_eq_true rfl) ?_
        refine ev_al dM_compareTokens_41 rfl (by first | assumption | rfl) ?_
        refine ev_getrP dM_compareTokens_42 fM_26 rfl (zq (q := 31) hP rfl) ?_
        refine ev_il dM_compareTokens_45 rfl (by first | assumption | rfl) ?_
        refine ev_aldN dM_compareTokens_47 rfl rfl (by omega) ?_
        rw [(hO.2 i (by omega)).1]
        refine ev_il dM_compareTokens_48 rfl (by first | assumption | rfl) ?_
        refine ev_il dM_compareTokens_49 rfl (by first | assumption | rfl) ?_
        first | with_reducible refine ev_addN dM_compareTokens_50 ?_ | refine ev_add dM_compareTokens_50 ?_
        refine ev_icmp (tgt := 58) dM_compareTokens_51 (by decide) (fun h51 => ?_) (fun h51 => ?_)
        · try simp (disch := omega) only [zcond, nI_ltI, nI_leI, nI_eq, zb0, Classical.not_not, Bool.not_eq_false, Bool.not_eq_true, Nat.not_lt, Nat.not_le] at h51
          refine ev_const (v := nI 0) dM_compareTokens_58 (by decide) ?_
          refine ev_is dM_compareTokens_59 rfl (Nat.le_of_ble_eq_true rfl) ?_
          first
          | (
             refine r_cmp61 (i := i) (p := p) (g := g) (w := w) (bf := true) (bh := true) hP hk1 ho1 hO ho0 (by omega) hw (decide_eq_true (by omega)).symm (decide_eq_true (by omega)).symm (by first | assumption | rfl) (by first | assumption | rfl) (by first | assumption | rfl) (by first | assumption | rfl) (by first | assumption | rfl) (by first | assumption | rfl) rfl rfl ?_
             intro L' a0 a1 a2 a3 a4 a5
             refine ih (i + 1) _ L' (by omega) hP ((zSame.I (S := fun o _ => o = 34) (zSame.rf _ M) rfl).TkM hk1) ((zSame.I (S := fun o _ => o = 34) (zSame.rf _ M) rfl).OTk hO) (fun j hj => ?_) a0 a1 a2 a3 a4 a5 ?_
             · by_cases hji : j = i
               · subst hji; exact zI_s _ _ _ _
               · exact (zI_k hji).trans (hv j (by omega))
             · intro M' hs hv'
               exact hR M' ((zSame.I (S := fun o _ => o = 34) (zSame.rf _ M) rfl).tr hs) hv')
          | (
             refine r_cmp61 (i := i) (p := p) (g := g) (w := w) (bf := true) (bh := false) hP hk1 ho1 hO ho0 (by omega) hw (decide_eq_true (by omega)).symm (decide_eq_false (by omega)).symm (by first | assumption | rfl) (by first | assumption | rfl) (by first | assumption | rfl) (by first | assumption | rfl) (by first | assumption | rfl) (by first | assumption | rfl) rfl rfl ?_
             intro L' a0 a1 a2 a3 a4 a5
             refine ih (i + 1) _ L' (by omega) hP ((zSame.I (S := fun o _ => o = 34) (zSame.rf _ M) rfl).TkM hk1) ((zSame.I (S := fun o _ => o = 34) (zSame.rf _ M) rfl).OTk hO) (fun j hj => ?_) a0 a1 a2 a3 a4 a5 ?_
             · by_cases hji : j = i
               · subst hji; exact zI_s _ _ _ _
               · exact (zI_k hji).trans (hv j (by omega))
             · intro M' hs hv'
               exact hR M' ((zSame.I (S := fun o _ => o = 34) (zSame.rf _ M) rfl).tr hs) hv')
          | (
             refine r_cmp61 (i := i) (p := p) (g := g) (w := w) (bf := false) (bh := true) hP hk1 ho1 hO ho0 (by omega) hw (decide_eq_false (by omega)).symm (decide_eq_true (by omega)).symm (by first | assumption | rfl) (by first | assumption | rfl) (by first | assumption | rfl) (by first | assumption | rfl) (by first | assumption | rfl) (by first | assumption | rfl) rfl rfl ?_
             intro L' a0 a1 a2 a3 a4 a5
             refine ih (i + 1) _ L' (by omega) hP ((zSame.I (S := fun o _ => o = 34) (zSame.rf _ M) rfl).TkM hk1) ((zSame.I (S := fun o _ => o = 34) (zSame.rf _ M) rfl).OTk hO) (fun j hj => ?_) a0 a1 a2 a3 a4 a5 ?_
             · by_cases hji : j = i
               · subst hji; exact zI_s _ _ _ _
               · exact (zI_k hji).trans (hv j (by omega))
             · intro M' hs hv'
               exact hR M' ((zSame.I (S := fun o _ => o = 34) (zSame.rf _ M) rfl).tr hs) hv')
          | (
             refine r_cmp61 (i := i) (p := p) (g := g) (w := w) (bf := false) (bh := false) hP hk1 ho1 hO ho0 (by omega) hw (decide_eq_false (by omega)).symm (decide_eq_false (by omega)).symm (by first | assumption | rfl) (by first | assumption | rfl) (by first | assumption | rfl) (by first | assumption | rfl) (by first | assumption | rfl) (by first | assumption | rfl) rfl rfl ?_
             intro L' a0 a1 a2 a3 a4 a5
             refine ih (i + 1) _ L' (by omega) hP ((zSame.I (S := fun o _ => o = 34) (zSame.rf _ M) rfl).TkM hk1) ((zSame.I (S := fun o _ => o = 34) (zSame.rf _ M) rfl).OTk hO) (fun j hj => ?_) a0 a1 a2 a3 a4 a5 ?_
             · by_cases hji : j = i
               · subst hji; exact zI_s _ _ _ _
               · exact (zI_k hji).trans (hv j (by omega))
             · intro M' hs hv'
               exact hR M' ((zSame.I (S := fun o _ => o = 34) (zSame.rf _ M) rfl).tr hs) hv')
        · try simp (disch := omega) only [zcond, nI_ltI, nI_leI, nI_eq, zb0, Classical.not_not, Bool.not_eq_false, Bool.not_eq_true, Nat.not_lt, Nat.not_le] at h51
          refine ev_const (v := nI 1) dM_compareTokens_54 (by decide) ?_
          refine ev_goto (tgt := 59) dM_compareTokens_55 (by decide) ?_
          refine ev_is dM_compareTokens_59 rfl (Nat.le_of_ble_eq_true rfl) ?_
          first
          | (
             refine r_cmp61 (i := i) (p := p) (g := g) (w := w) (bf := true) (bh := true) hP hk1 ho1 hO ho0 (by omega) hw (decide_eq_true (by omega)).symm (decide_eq_true (by omega)).symm (by first | assumption | rfl) (by first | assumption | rfl) (by first | assumption | rfl) (by first | assumption | rfl) (by first | assumption | rfl) (by first | assumption | rfl) rfl rfl ?_
             intro L' a0 a1 a2 a3 a4 a5
             refine ih (i + 1) _ L' (by omega) hP ((zSame.I (S := fun o _ => o = 34) (zSame.rf _ M) rfl).TkM hk1) ((zSame.I (S := fun o _ => o = 34) (zSame.rf _ M) rfl).OTk hO) (fun j hj => ?_) a0 a1 a2 a3 a4 a5 ?_
             · by_cases hji : j = i
               · subst hji; exact zI_s _ _ _ _
               · exact (zI_k hji).trans (hv j (by omega))
             · intro M' hs hv'
               exact hR M' ((zSame.I (S := fun o _ => o = 34) (zSame.rf _ M) rfl).tr hs) hv')
          | (
             refine r_cmp61 (i := i) (p := p) (g := g) (w := w) (bf := true) (bh := false) hP hk1 ho1 hO ho0 (by omega) hw (decide_eq_true (by omega)).symm (decide_eq_false (by omega)).symm (by first | assumption | rfl) (by first | assumption | rfl) (by first | assumption | rfl) (by first | assumption | rfl) (by first | assumption | rfl) (by first | assumption | rfl) rfl rfl ?_
             intro L' a0 a1 a2 a3 a4 a5
             refine ih (i + 1) _ L' (by omega) hP ((zSame.I (S := fun o _ => o = 34) (zSame.rf _ M) rfl).TkM hk1) ((zSame.I (S := fun o _ => o = 34) (zSame.rf _ M) rfl).OTk hO) (fun j hj => ?_) a0 a1 a2 a3 a4 a5 ?_
             · by_cases hji : j = i
               · subst hji; exact zI_s _ _ _ _
               · exact (zI_k hji).trans (hv j (by omega))
             · intro M' hs hv'
               exact hR M' ((zSame.I (S := fun o _ => o = 34) (zSame.rf _ M) rfl).tr hs) hv')
          | (
             refine r_cmp61 (i := i) (p := p) (g := g) (w := w) (bf := false) (bh := true) hP hk1 ho1 hO ho0 (by omega) hw (decide_eq_false (by omega)).symm (decide_eq_true (by omega)).symm (by first | assumption | rfl) (by first | assumption | rfl) (by first | assumption | rfl) (by first | assumption | rfl) (by first | assumption | rfl) (by first | assumption | rfl) rfl rfl ?_
             intro L' a0 a1 a2 a3 a4 a5
             refine ih (i + 1) _ L' (by omega) hP ((zSame.I (S := fun o _ => o = 34) (zSame.rf _ M) rfl).TkM hk1) ((zSame.I (S := fun o _ => o = 34) (zSame.rf _ M) rfl).OTk hO) (fun j hj => ?_) a0 a1 a2 a3 a4 a5 ?_
             · by_cases hji : j = i
               · subst hji; exact zI_s _ _ _ _
               · exact (zI_k hji).trans (hv j (by omega))
             · intro M' hs hv'
               exact hR M' ((zSame.I (S := fun o _ => o = 34) (zSame.rf _ M) rfl).tr hs) hv')
          | (
             refine r_cmp61 (i := i) (p := p) (g := g) (w := w) (bf := false) (bh := false) hP hk1 ho1 hO ho0 (by omega) hw (decide_eq_false (by omega)).symm (decide_eq_false (by omega)).symm (by first | assumption | rfl) (by first | assumption | rfl) (by first | assumption | rfl) (by first | assumption | rfl) (by first | assumption | rfl) (by first | assumption | rfl) rfl rfl ?_
             intro L' a0 a1 a2 a3 a4 a5
             refine ih (i + 1) _ L' (by omega) hP ((zSame.I (S := fun o _ => o = 34) (zSame.rf _ M) rfl).TkM hk1) ((zSame.I (S := fun o _ => o = 34) (zSame.rf _ M) rfl).OTk hO) (fun j hj => ?_) a0 a1 a2 a3 a4 a5 ?_
             · by_cases hji : j = i
               · subst hji; exact zI_s _ _ _ _
               · exact (zI_k hji).trans (hv j (by omega))
             · intro M' hs hv'
               exact hR M' ((zSame.I (S := fun o _ => o = 34) (zSame.rf _ M) rfl).tr hs) hv')
set_option maxRecDepth 100000 in
set_option maxHeartbeats 4000000 in
theorem r_compareTokens {M : zM} {e0 e1 p g w : Nat} {ts0 ts1 : List (Nat × Nat × Nat)} (hP : M.2.1 = zP0 n b) (hk1 : TkM M ts1) (ho1 : tsOk e1 ts1) (hO : OTk M ts0) (ho0 : tsOk e0 ts0) (hw : w ≤ 40) (hp : p ≤ 160) (hg : g ≤ 160) : Ct Lx xs (d + 1) mM_compareTokens [.ref 25, .int (nI p), .int (nI g), .int (nI w - nI g)] M (fun q M' => q = some (nI (imC (fun j => imV p g w ts1 (tk ts0 j)) ts0.length)) ∧ zSame (fun o _ => o = 34) M M' ∧ ∀ j, j < ts0.length → M'.1 34 j = imV p g w ts1 (tk ts0 j)) := by
  unfold Ct
  refine ev_const (v := nI 0) dM_compareTokens_0 (by decide) ?_
  refine ev_is dM_compareTokens_1 rfl (Nat.le_of_ble_eq_true rfl) ?_
  refine ev_const (v := nI 0) dM_compareTokens_3 (by decide) ?_
  refine ev_is dM_compareTokens_4 rfl (Nat.le_of_ble_eq_true rfl) ?_
  exact r_cmpL ho1 ho0 hw hp hg ts0.length 0 M _ (by omega) hP hk1 hO (fun j hj => absurd hj (Nat.not_lt_zero j)) rfl rfl rfl rfl rfl rfl (fun M' hs hv => ⟨rfl, hs, hv⟩)
end
