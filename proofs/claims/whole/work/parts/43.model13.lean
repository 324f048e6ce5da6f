/- the reference: valueOf (rows laid by program) -/
def eTake (x : eF) (v : Int32) : eF := (x.1, x.2.1, (if x.2.2.2.1 % 2 = 1 then -(x.2.2.1 * v) else x.2.2.1 * v), 0, x.2.2.2.2)
def eVal (mk : Nat → Nat) (tv : Nat → Int32) (sl : Nat → Nat) (nv : Nat → Int32) (k : Nat) : Int32 := if mk k = 48 then tv k else if mk k = 34 then nI (sl k) - nI 2 else nv k
/-- a token of an item's own part, evaluated; none: it can't stand there -/
def eStp (mk : Nat → Nat) (tv : Nat → Int32) (sl : Nat → Nat) (nv : Nat → Int32) (fr k : Nat) (x : eF) (r : List eF) (nx : Bool) : Option (List eF × Bool) :=
  if mk k = 40 then (if k = 0 ∨ 15 ≤ r.length then none else some ((nI 0, nI 1, nI 1, 0, (if decide (mk (k - 1) = 97 ∧ fr < k) = true then nI (sl (k - 1)) else nI 0), decide (mk (k - 1) = 97 ∧ fr < k)) :: x :: r, true))
  else if mk k = 41 then (if k = 0 then none else match r with
    | [] => none
    | y :: r' => some (eTake y (eLv x (decide (mk (k - 1) = 40))) :: r', false))
  else if mk k = 45 ∧ nx = true then (if 2 ^ 29 ≤ x.2.2.2.1 then none else some ((x.1, x.2.1, x.2.2.1, x.2.2.2.1 + 1, x.2.2.2.2) :: r, nx))
  else if lSig (mk k) = true then some (eOp (mk k) x :: r, true)
  else if decide (mk k = 97 ∧ mk (k + 1) = 40) = true then some (x :: r, false)
  else some (eTake x (eVal mk tv sl nv k) :: r, false)
theorem tMk_sig {t : Nat → Nat} {ts : List (Nat × Nat × Nat)} {k : Nat} (hc : (tk ts k).2.2 < 5) (hs : (tk ts k).2.2 = 3 → lSig (t (tk ts k).1) = true) : (tk ts k).2.2 = 3 ↔ lSig (tMk t ts k) = true := by
  unfold tMk lMk
  rcases (show (tk ts k).2.2 = 0 ∨ (tk ts k).2.2 = 1 ∨ (tk ts k).2.2 = 2 ∨ (tk ts k).2.2 = 3 ∨ (tk ts k).2.2 = 4 by omega) with h | h | h | h | h <;> rw [h] <;> first | (simp [hs h]; done) | (simp [lSig]; done)
section
variable {Lx : Nat} {xs : Nat → Int32} {d : Nat} {M : zM} {n b : Nat}
set_option maxRecDepth 100000 in
set_option maxHeartbeats 4000000 in
theorem r_v59 {e k of fr to : Nat} {t : Nat → Nat} {ts : List (Nat × Nat × Nat)} {x : eF} {r : List eF} {y : List eF × Bool} {Q : zQ} {L : Nat → Value} (hP : M.2.1 = zP0 n b) (hk : MTk M e t ts) (hkt : k < to) (hto : to < ts.length) (hE : EV M (x :: r)) (hL0 : L 0 = .ref 25) (hL1 : L 1 = .int (nI of)) (hL2 : L 2 = .int (nI fr)) (hL3 : L 3 = .int (nI to)) (hL5 : L 5 = .int (nI k)) {cl : Bool} (hk1 : 1 ≤ k) (hr : r.length < 15) (hL6 : L 6 = .int (nI cl.toNat)) (hy : y = ((nI 0, nI 1, nI 1, 0, (if cl = true then nI (tSl ts (k - 1)) else nI 0), cl) :: x :: r, true)) (hK : ∀ (M' : zM) (L' : Nat → Value), zSame sE M M' → EV M' y.1 → L' 0 = .ref 25 → L' 1 = .int (nI of) → L' 2 = .int (nI fr) → L' 3 = .int (nI to) → L' 4 = .int (nI y.2.toNat) → L' 5 = .int (nI (k + 1)) → Ev Lx xs (d + 3) mM_valueOf 17 L' [] M' Q) : Ev Lx xs (d + 3) mM_valueOf 59 L [] M Q := by
  have he := hk.1.2.1
  have hlen := hk.2.2.1.2.1
  have hl : r.length + 1 ≤ 16 := hE.2.1
  have hd : M.1 25 36 = nI r.length := hE.1
  obtain ⟨hq1, hq2, hq3⟩ := hk.2.1.2 k _ (tk_at (show k < ts.length by omega))
  have hkd : (tk ts k).2.2 < 5 := by have := hk.2.2.1.2.2.1 k _ (tk_at (show k < ts.length by omega)); omega
  have hsg := hk.2.2.2 k (by omega)
  subst hy
  obtain ⟨hp1, hp2, hp3⟩ := hk.2.1.2 (k - 1) _ (tk_at (show k - 1 < ts.length by omega))
  refine ev_al dM_valueOf_59 rfl (by first | assumption | rfl) ?_
  refine ev_il dM_valueOf_60 rfl (by first | assumption | rfl) ?_
  refine ev_il dM_valueOf_62 rfl (by first | assumption | rfl) ?_
  refine ev_if0 (tgt := 79) dM_valueOf_64 (by decide) (fun h64 => ?_) (fun h64 => ?_)
  · simp only [zcond, zb0, Classical.not_not, Bool.not_eq_false, Bool.not_eq_true] at h64
    refine ev_const (v := nI 0) dM_valueOf_79 (by decide) ?_
    refine ev_cV dM_valueOf_80 (r_enter (r := x :: r) (li := cl) hP hE (by show r.length + 1 < 16; omega)) lM_200 rec_M rfl (Nat.le_of_ble_eq_true rfl) rfl (Nat.le_of_ble_eq_true rfl) (fun z M2 hz => ?_)
    obtain ⟨rfl, hs2, hE2⟩ := hz
    refine ev_const (v := nI 1) dM_valueOf_83 (by decide) ?_
    refine ev_is dM_valueOf_84 rfl (Nat.le_of_ble_eq_true rfl) ?_
    refine ev_goto (tgt := 275) dM_valueOf_86 (by decide) ?_
    refine ev_inc1 dM_valueOf_275 (by first | assumption | rfl) ?_
    refine ev_goto (tgt := 17) dM_valueOf_278 (by decide) ?_
    first
    | (rw [if_pos h64] at hK; exact hK _ _ hs2 hE2 (by first | assumption | rfl) (by first | assumption | rfl) (by first | assumption | rfl) (by first | assumption | rfl) rfl rfl)
    | (rw [if_neg (by rw [h64]; decide)] at hK; exact hK _ _ hs2 hE2 (by first | assumption | rfl) (by first | assumption | rfl) (by first | assumption | rfl) (by first | assumption | rfl) rfl rfl)
  · simp only [zcond, zb0, Classical.not_not, Bool.not_eq_false, Bool.not_eq_true] at h64
    refine ev_al dM_valueOf_67 rfl (by first | assumption | rfl) ?_
    refine ev_getrP dM_valueOf_68 fM_20 rfl (zq (q := 29) hP rfl) ?_
    refine ev_il dM_valueOf_71 rfl (by first | assumption | rfl) ?_
    refine ev_const (v := nI 1) dM_valueOf_73 (by decide) ?_
    first | with_reducible refine ev_subN dM_valueOf_74 (by omega) ?_ | refine ev_sub dM_valueOf_74 ?_
    refine ev_aldN dM_valueOf_75 rfl rfl (by omega) ?_
    rw [hp2]
    refine ev_goto (tgt := 80) dM_valueOf_76 (by decide) ?_
    refine ev_cV dM_valueOf_80 (r_enter (r := x :: r) (li := cl) hP hE (by show r.length + 1 < 16; omega)) lM_200 rec_M rfl (Nat.le_of_ble_eq_true rfl) rfl (Nat.le_of_ble_eq_true rfl) (fun z M2 hz => ?_)
    obtain ⟨rfl, hs2, hE2⟩ := hz
    refine ev_const (v := nI 1) dM_valueOf_83 (by decide) ?_
    refine ev_is dM_valueOf_84 rfl (Nat.le_of_ble_eq_true rfl) ?_
    refine ev_goto (tgt := 275) dM_valueOf_86 (by decide) ?_
    refine ev_inc1 dM_valueOf_275 (by first | assumption | rfl) ?_
    refine ev_goto (tgt := 17) dM_valueOf_278 (by decide) ?_
    first
    | (rw [if_pos h64] at hK; exact hK _ _ hs2 hE2 (by first | assumption | rfl) (by first | assumption | rfl) (by first | assumption | rfl) (by first | assumption | rfl) rfl rfl)
    | (rw [if_neg (by rw [h64]; decide)] at hK; exact hK _ _ hs2 hE2 (by first | assumption | rfl) (by first | assumption | rfl) (by first | assumption | rfl) (by first | assumption | rfl) rfl rfl)
set_option maxRecDepth 100000 in
set_option maxHeartbeats 4000000 in
theorem r_v213 {e k of fr to : Nat} {t : Nat → Nat} {ts : List (Nat × Nat × Nat)} {x : eF} {r : List eF} {y : List eF × Bool} {Q : zQ} {L : Nat → Value} (hP : M.2.1 = zP0 n b) (hk : MTk M e t ts) (hkt : k < to) (hto : to < ts.length) (hE : EV M (x :: r)) (hL0 : L 0 = .ref 25) (hL1 : L 1 = .int (nI of)) (hL2 : L 2 = .int (nI fr)) (hL3 : L 3 = .int (nI to)) (hL5 : L 5 = .int (nI k)) {cl : Bool} {nv : Nat → Int32} (hnv : Pu Lx xs (d + 2) mM_named [.ref 25, .int (nI of), .int (nI k)] M (nv k)) (hL6 : L 6 = .int (nI cl.toNat)) (hy : y = (if cl = true then (x :: r, false) else (eTake x (eVal (tMk t ts) (tTv t ts) (tSl ts) nv k) :: r, false))) (hK : ∀ (M' : zM) (L' : Nat → Value), zSame sE M M' → EV M' y.1 → L' 0 = .ref 25 → L' 1 = .int (nI of) → L' 2 = .int (nI fr) → L' 3 = .int (nI to) → L' 4 = .int (nI y.2.toNat) → L' 5 = .int (nI (k + 1)) → Ev Lx xs (d + 3) mM_valueOf 17 L' [] M' Q) : Ev Lx xs (d + 3) mM_valueOf 213 L [] M Q := by
  have he := hk.1.2.1
  have hlen := hk.2.2.1.2.1
  have hl : r.length + 1 ≤ 16 := hE.2.1
  have hd : M.1 25 36 = nI r.length := hE.1
  obtain ⟨hq1, hq2, hq3⟩ := hk.2.1.2 k _ (tk_at (show k < ts.length by omega))
  have hkd : (tk ts k).2.2 < 5 := by have := hk.2.2.1.2.2.1 k _ (tk_at (show k < ts.length by omega)); omega
  have hsg := hk.2.2.2 k (by omega)
  refine ev_il dM_valueOf_213 rfl (by first | assumption | rfl) ?_
  refine ev_if0 (tgt := 272) dM_valueOf_215 (by decide) (fun h215 => ?_) (fun h215 => ?_)
  · simp only [zcond, zb0, Classical.not_not, Bool.not_eq_false, Bool.not_eq_true] at h215
    refine ev_const (v := nI 0) dM_valueOf_272 (by decide) ?_
    refine ev_is dM_valueOf_273 rfl (Nat.le_of_ble_eq_true rfl) ?_
    refine ev_inc1 dM_valueOf_275 (by first | assumption | rfl) ?_
    refine ev_goto (tgt := 17) dM_valueOf_278 (by decide) ?_
    first
    | (rw [if_pos h215] at hy; subst hy; exact hK _ _ (zSame.rf _ _) hE (by first | assumption | rfl) (by first | assumption | rfl) (by first | assumption | rfl) (by first | assumption | rfl) rfl rfl)
    | (rw [if_neg (by rw [h215]; decide)] at hy
       subst hy
       unfold eVal at hK
       rw [if_pos h227] at hK
       exact hK _ _ hs2 hE2 (by first | assumption | rfl) (by first | assumption | rfl) (by first | assumption | rfl) (by first | assumption | rfl) rfl rfl)
    | (rw [if_neg (by rw [h215]; decide)] at hy
       subst hy
       unfold eVal at hK
       rw [if_neg h227, if_pos h247] at hK
       exact hK _ _ hs2 hE2 (by first | assumption | rfl) (by first | assumption | rfl) (by first | assumption | rfl) (by first | assumption | rfl) rfl rfl)
    | (rw [if_neg (by rw [h215]; decide)] at hy
       subst hy
       unfold eVal at hK
       rw [if_neg h227, if_neg h247] at hK
       exact hK _ _ hs2 hE2 (by first | assumption | rfl) (by first | assumption | rfl) (by first | assumption | rfl) (by first | assumption | rfl) rfl rfl)
  · simp only [zcond, zb0, Classical.not_not, Bool.not_eq_false, Bool.not_eq_true] at h215
    refine ev_al dM_valueOf_218 rfl (by first | assumption | rfl) ?_
    refine ev_al dM_valueOf_219 rfl (by first | assumption | rfl) ?_
    refine ev_getrP dM_valueOf_220 fM_23 rfl (zq (q := 30) hP rfl) ?_
    refine ev_il dM_valueOf_223 rfl (by first | assumption | rfl) ?_
    refine ev_aldN dM_valueOf_225 rfl rfl (by omega) ?_
    rw [hq3]
    refine ev_const (v := nI 1) dM_valueOf_226 (by decide) ?_
    refine ev_icmp (tgt := 239) dM_valueOf_227 (by decide) (fun h227 => ?_) (fun h227 => ?_)
    · simp (disch := omega) only [zcond, nI_eq, Classical.not_not] at h227
      rw [tMk_kind (t := t) (m := 48) (by omega) hkd hsg] at h227
      refine ev_al dM_valueOf_239 rfl (by first | assumption | rfl) ?_
      refine ev_getrP dM_valueOf_240 fM_23 rfl (zq (q := 30) hP rfl) ?_
      refine ev_il dM_valueOf_243 rfl (by first | assumption | rfl) ?_
      refine ev_aldN dM_valueOf_245 rfl rfl (by omega) ?_
      rw [hq3]
      refine ev_const (v := nI 2) dM_valueOf_246 (by decide) ?_
      refine ev_icmp (tgt := 262) dM_valueOf_247 (by decide) (fun h247 => ?_) (fun h247 => ?_)
      · simp (disch := omega) only [zcond, nI_eq, Classical.not_not] at h247
        rw [tMk_kind (t := t) (m := 34) (by omega) hkd hsg] at h247
        refine ev_al dM_valueOf_262 rfl (by first | assumption | rfl) ?_
        refine ev_il dM_valueOf_263 rfl (by first | assumption | rfl) ?_
        refine ev_il dM_valueOf_264 rfl (by first | assumption | rfl) ?_
        refine ev_pV dM_valueOf_266 hnv lM_218 rec_M rfl (Nat.le_of_ble_eq_true rfl) rfl (Nat.le_of_ble_eq_true rfl) ?_
        refine ev_cV dM_valueOf_269 (r_take hP hE) lM_208 rec_M rfl (Nat.le_of_ble_eq_true rfl) rfl (Nat.le_of_ble_eq_true rfl) (fun z M2 hz => ?_)
        obtain ⟨rfl, hs2, hE2⟩ := hz
        refine ev_const (v := nI 0) dM_valueOf_272 (by decide) ?_
        refine ev_is dM_valueOf_273 rfl (Nat.le_of_ble_eq_true rfl) ?_
        refine ev_inc1 dM_valueOf_275 (by first | assumption | rfl) ?_
        refine ev_goto (tgt := 17) dM_valueOf_278 (by decide) ?_
        first
        | (rw [if_pos h215] at hy; subst hy; exact hK _ _ (zSame.rf _ _) hE (by first | assumption | rfl) (by first | assumption | rfl) (by first | assumption | rfl) (by first | assumption | rfl) rfl rfl)
        | (rw [if_neg (by rw [h215]; decide)] at hy
           subst hy
           unfold eVal at hK
           rw [if_pos h227] at hK
           exact hK _ _ hs2 hE2 (by first | assumption | rfl) (by first | assumption | rfl) (by first | assumption | rfl) (by first | assumption | rfl) rfl rfl)
        | (rw [if_neg (by rw [h215]; decide)] at hy
           subst hy
           unfold eVal at hK
           rw [if_neg h227, if_pos h247] at hK
           exact hK _ _ hs2 hE2 (by first | assumption | rfl) (by first | assumption | rfl) (by first | assumption | rfl) (by first | assumption | rfl) rfl rfl)
        | (rw [if_neg (by rw [h215]; decide)] at hy
           subst hy
           unfold eVal at hK
           rw [if_neg h227, if_neg h247] at hK
           exact hK _ _ hs2 hE2 (by first | assumption | rfl) (by first | assumption | rfl) (by first | assumption | rfl) (by first | assumption | rfl) rfl rfl)
      · simp (disch := omega) only [zcond, nI_eq, Classical.not_not] at h247
        rw [tMk_kind (t := t) (m := 34) (by omega) hkd hsg] at h247
        refine ev_al dM_valueOf_250 rfl (by first | assumption | rfl) ?_
        refine ev_getrP dM_valueOf_251 fM_20 rfl (zq (q := 29) hP rfl) ?_
        refine ev_il dM_valueOf_254 rfl (by first | assumption | rfl) ?_
        refine ev_aldN dM_valueOf_256 rfl rfl (by omega) ?_
        rw [hq2]
        refine ev_const (v := nI 2) dM_valueOf_257 (by decide) ?_
        refine ev_sub dM_valueOf_258 ?_
        refine ev_goto (tgt := 269) dM_valueOf_259 (by decide) ?_
        refine ev_cV dM_valueOf_269 (r_take hP hE) lM_208 rec_M rfl (Nat.le_of_ble_eq_true rfl) rfl (Nat.le_of_ble_eq_true rfl) (fun z M2 hz => ?_)
        obtain ⟨rfl, hs2, hE2⟩ := hz
        refine ev_const (v := nI 0) dM_valueOf_272 (by decide) ?_
        refine ev_is dM_valueOf_273 rfl (Nat.le_of_ble_eq_true rfl) ?_
        refine ev_inc1 dM_valueOf_275 (by first | assumption | rfl) ?_
        refine ev_goto (tgt := 17) dM_valueOf_278 (by decide) ?_
        first
        | (rw [if_pos h215] at hy; subst hy; exact hK _ _ (zSame.rf _ _) hE (by first | assumption | rfl) (by first | assumption | rfl) (by first | assumption | rfl) (by first | assumption | rfl) rfl rfl)
        | (rw [if_neg (by rw [h215]; decide)] at hy
           subst hy
           unfold eVal at hK
           rw [if_pos h227] at hK
           exact hK _ _ hs2 hE2 (by first | assumption | rfl) (by first | assumption | rfl) (by first | assumption | rfl) (by first | assumption | rfl) rfl rfl)
        | (rw [if_neg (by rw [h215]; decide)] at hy
           subst hy
           unfold eVal at hK
           rw [if_neg h227, if_pos h247] at hK
           exact hK _ _ hs2 hE2 (by first | assumption | rfl) (by first | assumption | rfl) (by first | assumption | rfl) (by first | assumption | rfl) rfl rfl)
        | (rw [if_neg (by rw [h215]; decide)] at hy
           subst hy
           unfold eVal at hK
           rw [if_neg h227, if_neg h247] at hK
           exact hK _ _ hs2 hE2 (by first | assumption | rfl) (by first | assumption | rfl) (by first | assumption | rfl) (by first | assumption | rfl) rfl rfl)
    · simp (disch := omega) only [zcond, nI_eq, Classical.not_not] at h227
      rw [tMk_kind (t := t) (m := 48) (by omega) hkd hsg] at h227
      refine ev_al dM_valueOf_230 rfl (by first | assumption | rfl) ?_
      refine ev_il dM_valueOf_231 rfl (by first | assumption | rfl) ?_
      refine ev_pV dM_valueOf_233 (r_numberValue hP hk (by omega)) lM_215 rec_M rfl (Nat.le_of_ble_eq_true rfl) rfl (Nat.le_of_ble_eq_true rfl) ?_
      refine ev_goto (tgt := 269) dM_valueOf_236 (by decide) ?_
      refine ev_cV dM_valueOf_269 (r_take hP hE) lM_208 rec_M rfl (Nat.le_of_ble_eq_true rfl) rfl (Nat.le_of_ble_eq_true rfl) (fun z M2 hz => ?_)
      obtain ⟨rfl, hs2, hE2⟩ := hz
      refine ev_const (v := nI 0) dM_valueOf_272 (by decide) ?_
      refine ev_is dM_valueOf_273 rfl (Nat.le_of_ble_eq_true rfl) ?_
      refine ev_inc1 dM_valueOf_275 (by first | assumption | rfl) ?_
      refine ev_goto (tgt := 17) dM_valueOf_278 (by decide) ?_
      first
      | (rw [if_pos h215] at hy; subst hy; exact hK _ _ (zSame.rf _ _) hE (by first | assumption | rfl) (by first | assumption | rfl) (by first | assumption | rfl) (by first | assumption | rfl) rfl rfl)
      | (rw [if_neg (by rw [h215]; decide)] at hy
         subst hy
         unfold eVal at hK
         rw [if_pos h227] at hK
         exact hK _ _ hs2 hE2 (by first | assumption | rfl) (by first | assumption | rfl) (by first | assumption | rfl) (by first | assumption | rfl) rfl rfl)
      | (rw [if_neg (by rw [h215]; decide)] at hy
         subst hy
         unfold eVal at hK
         rw [if_neg h227, if_pos h247] at hK
         exact hK _ _ hs2 hE2 (by first | assumption | rfl) (by first | assumption | rfl) (by first | assumption | rfl) (by first | assumption | rfl) rfl rfl)
      | (rw [if_neg (by rw [h215]; decide)] at hy
         subst hy
         unfold eVal at hK
         rw [if_neg h227, if_neg h247] at hK
         exact hK _ _ hs2 hE2 (by first | assumption | rfl) (by first | assumption | rfl) (by first | assumption | rfl) (by first | assumption | rfl) rfl rfl)
set_option maxRecDepth 100000 in
set_option maxHeartbeats 4000000 in
theorem r_v23 {e k of fr to : Nat} {t : Nat → Nat} {ts : List (Nat × Nat × Nat)} {x : eF} {r : List eF} {y : List eF × Bool} {Q : zQ} {L : Nat → Value} (hP : M.2.1 = zP0 n b) (hk : MTk M e t ts) (hkt : k < to) (hto : to < ts.length) (hE : EV M (x :: r)) (hL0 : L 0 = .ref 25) (hL1 : L 1 = .int (nI of)) (hL2 : L 2 = .int (nI fr)) (hL3 : L 3 = .int (nI to)) (hL5 : L 5 = .int (nI k)) {nx : Bool} {nv : Nat → Int32} (hnv : Pu Lx xs (d + 2) mM_named [.ref 25, .int (nI of), .int (nI k)] M (nv k)) (hL4 : L 4 = .int (nI nx.toNat)) (h : eStp (tMk t ts) (tTv t ts) (tSl ts) nv fr k x r nx = some y) (hfr : fr < 2 ^ 31) (hK : ∀ (M' : zM) (L' : Nat → Value), zSame sE M M' → EV M' y.1 → L' 0 = .ref 25 → L' 1 = .int (nI of) → L' 2 = .int (nI fr) → L' 3 = .int (nI to) → L' 4 = .int (nI y.2.toNat) → L' 5 = .int (nI (k + 1)) → Ev Lx xs (d + 3) mM_valueOf 17 L' [] M' Q) : Ev Lx xs (d + 3) mM_valueOf 23 L [] M Q := by
  have he := hk.1.2.1
  have hlen := hk.2.2.1.2.1
  have hl : r.length + 1 ≤ 16 := hE.2.1
  have hd : M.1 25 36 = nI r.length := hE.1
  obtain ⟨hq1, hq2, hq3⟩ := hk.2.1.2 k _ (tk_at (show k < ts.length by omega))
  have hkd : (tk ts k).2.2 < 5 := by have := hk.2.2.1.2.2.1 k _ (tk_at (show k < ts.length by omega)); omega
  have hsg := hk.2.2.2 k (by omega)
  refine ev_al dM_valueOf_23 rfl (by first | assumption | rfl) ?_
  refine ev_il dM_valueOf_24 rfl (by first | assumption | rfl) ?_
  refine ev_const (v := nI 40) dM_valueOf_26 (by decide) ?_
  refine ev_pV dM_valueOf_28 (r_is hP hk (by omega) (by decide)) lM_153 rec_M rfl (Nat.le_of_ble_eq_true rfl) rfl (Nat.le_of_ble_eq_true rfl) ?_
  refine ev_if0 (tgt := 89) dM_valueOf_31 (by decide) (fun h31 => ?_) (fun h31 => ?_)
  · simp only [zcond, zb0, Classical.not_not, Bool.not_eq_false, Bool.not_eq_true, decide_eq_true_eq, decide_eq_false_iff_not] at h31
    refine ev_al dM_valueOf_89 rfl (by first | assumption | rfl) ?_
    refine ev_il dM_valueOf_90 rfl (by first | assumption | rfl) ?_
    refine ev_const (v := nI 41) dM_valueOf_92 (by decide) ?_
    refine ev_pV dM_valueOf_94 (r_is hP hk (by omega) (by decide)) lM_153 rec_M rfl (Nat.le_of_ble_eq_true rfl) rfl (Nat.le_of_ble_eq_true rfl) ?_
    refine ev_if0 (tgt := 128) dM_valueOf_97 (by decide) (fun h97 => ?_) (fun h97 => ?_)
    · simp only [zcond, zb0, Classical.not_not, Bool.not_eq_false, Bool.not_eq_true, decide_eq_true_eq, decide_eq_false_iff_not] at h97
      refine ev_al dM_valueOf_128 rfl (by first | assumption | rfl) ?_
      refine ev_il dM_valueOf_129 rfl (by first | assumption | rfl) ?_
      refine ev_const (v := nI 45) dM_valueOf_131 (by decide) ?_
      refine ev_pV dM_valueOf_133 (r_is hP hk (by omega) (by decide)) lM_153 rec_M rfl (Nat.le_of_ble_eq_true rfl) rfl (Nat.le_of_ble_eq_true rfl) ?_
      refine ev_if0 (tgt := 160) dM_valueOf_136 (by decide) (fun h136 => ?_) (fun h136 => ?_)
      · simp only [zcond, zb0, Classical.not_not, Bool.not_eq_false, Bool.not_eq_true, decide_eq_true_eq, decide_eq_false_iff_not] at h136
        refine ev_al dM_valueOf_160 rfl (by first | assumption | rfl) ?_
        refine ev_getrP dM_valueOf_161 fM_23 rfl (zq (q := 30) hP rfl) ?_
        refine ev_il dM_valueOf_164 rfl (by first | assumption | rfl) ?_
        refine ev_aldN dM_valueOf_166 rfl rfl (by omega) ?_
        rw [hq3]
        refine ev_const (v := nI 3) dM_valueOf_167 (by decide) ?_
        refine ev_icmp (tgt := 183) dM_valueOf_168 (by decide) (fun h168 => ?_) (fun h168 => ?_)
        · simp (disch := omega) only [zcond, nI_eq, Classical.not_not] at h168
          rw [tMk_sig (t := t) hkd hsg] at h168
          refine ev_al dM_valueOf_183 rfl (by first | assumption | rfl) ?_
          refine ev_getrP dM_valueOf_184 fM_23 rfl (zq (q := 30) hP rfl) ?_
          refine ev_il dM_valueOf_187 rfl (by first | assumption | rfl) ?_
          refine ev_aldN dM_valueOf_189 rfl rfl (by omega) ?_
          rw [hq3]
          refine ev_if0 (tgt := 210) dM_valueOf_190 (by decide) (fun h190 => ?_) (fun h190 => ?_)
          · simp (disch := omega) only [zcond, nI_eq, Classical.not_not] at h190
            rw [tMk_kind (t := t) (m := 97) (by omega) hkd hsg] at h190
            refine ev_const (v := nI 0) dM_valueOf_210 (by decide) ?_
            refine ev_is dM_valueOf_211 rfl (Nat.le_of_ble_eq_true rfl) ?_
            have gm : ¬ (tMk t ts k = 45 ∧ nx = true) := by
              rintro ⟨g1, g2⟩
              first | exact h136 g1 | (rw [g2] at h141; cases h141; done)
            unfold eStp at h
            rw [if_neg h31, if_neg h97, if_neg gm, if_neg h168] at h
            first
            | (have hcl : decide (tMk t ts k = 97 ∧ tMk t ts (k + 1) = 40) = true := decide_eq_true (And.intro h190 h203)
               exact r_v213 (cl := true) hP hk hkt hto hE (by first | assumption | rfl) (by first | assumption | rfl) (by first | assumption | rfl) (by first | assumption | rfl) (by first | assumption | rfl) hnv rfl (by rw [← hcl]; split at h <;> (rename_i hc; rw [hcl] at hc; first | (cases hc; done) | (have h := Option.some.inj h; rw [hcl, ← h]; rfl))) hK)
            | (have hcl : decide (tMk t ts k = 97 ∧ tMk t ts (k + 1) = 40) = false := decide_eq_false (fun g => h190 g.1)
               exact r_v213 (cl := false) hP hk hkt hto hE (by first | assumption | rfl) (by first | assumption | rfl) (by first | assumption | rfl) (by first | assumption | rfl) (by first | assumption | rfl) hnv rfl (by rw [← hcl]; split at h <;> (rename_i hc; rw [hcl] at hc; first | (cases hc; done) | (have h := Option.some.inj h; rw [hcl, ← h]; rfl))) hK)
            | (have hcl : decide (tMk t ts k = 97 ∧ tMk t ts (k + 1) = 40) = false := decide_eq_false (fun g => h203 g.2)
               exact r_v213 (cl := false) hP hk hkt hto hE (by first | assumption | rfl) (by first | assumption | rfl) (by first | assumption | rfl) (by first | assumption | rfl) (by first | assumption | rfl) hnv rfl (by rw [← hcl]; split at h <;> (rename_i hc; rw [hcl] at hc; first | (cases hc; done) | (have h := Option.some.inj h; rw [hcl, ← h]; rfl))) hK)
          · simp (disch := omega) only [zcond, nI_eq, Classical.not_not] at h190
            rw [tMk_kind (t := t) (m := 97) (by omega) hkd hsg] at h190
            refine ev_al dM_valueOf_193 rfl (by first | assumption | rfl) ?_
            refine ev_il dM_valueOf_194 rfl (by first | assumption | rfl) ?_
            refine ev_const (v := nI 1) dM_valueOf_196 (by decide) ?_
            first | with_reducible refine ev_addN dM_valueOf_197 ?_ | refine ev_add dM_valueOf_197 ?_
            refine ev_const (v := nI 40) dM_valueOf_198 (by decide) ?_
            refine ev_pV dM_valueOf_200 (r_is hP hk (show k + 1 < ts.length by omega) (by decide)) lM_153 rec_M rfl (Nat.le_of_ble_eq_true rfl) rfl (Nat.le_of_ble_eq_true rfl) ?_
            refine ev_if0 (tgt := 210) dM_valueOf_203 (by decide) (fun h203 => ?_) (fun h203 => ?_)
            · simp only [zcond, zb0, Classical.not_not, Bool.not_eq_false, Bool.not_eq_true, decide_eq_true_eq, decide_eq_false_iff_not] at h203
              refine ev_const (v := nI 0) dM_valueOf_210 (by decide) ?_
              refine ev_is dM_valueOf_211 rfl (Nat.le_of_ble_eq_true rfl) ?_
              have gm : ¬ (tMk t ts k = 45 ∧ nx = true) := by
                rintro ⟨g1, g2⟩
                first | exact h136 g1 | (rw [g2] at h141; cases h141; done)
              unfold eStp at h
              rw [if_neg h31, if_neg h97, if_neg gm, if_neg h168] at h
              first
              | (have hcl : decide (tMk t ts k = 97 ∧ tMk t ts (k + 1) = 40) = true := decide_eq_true (And.intro h190 h203)
                 exact r_v213 (cl := true) hP hk hkt hto hE (by first | assumption | rfl) (by first | assumption | rfl) (by first | assumption | rfl) (by first | assumption | rfl) (by first | assumption | rfl) hnv rfl (by rw [← hcl]; split at h <;> (rename_i hc; rw [hcl] at hc; first | (cases hc; done) | (have h := Option.some.inj h; rw [hcl, ← h]; rfl))) hK)
              | (have hcl : decide (tMk t ts k = 97 ∧ tMk t ts (k + 1) = 40) = false := decide_eq_false (fun g => h190 g.1)
                 exact r_v213 (cl := false) hP hk hkt hto hE (by first | assumption | rfl) (by first | assumption | rfl) (by first | assumption | rfl) (by first | assumption | rfl) (by first | assumption | rfl) hnv rfl (by rw [← hcl]; split at h <;> (rename_i hc; rw [hcl] at hc; first | (cases hc; done) | (have h := Option.some.inj h; rw [hcl, ← h]; rfl))) hK)
              | (have hcl : decide (tMk t ts k = 97 ∧ tMk t ts (k + 1) = 40) = false := decide_eq_false (fun g => h203 g.2)
                 exact r_v213 (cl := false) hP hk hkt hto hE (by first | assumption | rfl) (by first | assumption | rfl) (by first | assumption | rfl) (by first | assumption | rfl) (by first | assumption | rfl) hnv rfl (by rw [← hcl]; split at h <;> (rename_i hc; rw [hcl] at hc; first | (cases hc; done) | (have h := Option.some.inj h; rw [hcl, ← h]; rfl))) hK)
            · simp only [zcond, zb0, Classical.not_not, Bool.not_eq_false, Bool.not_eq_true, decide_eq_true_eq, decide_eq_false_iff_not] at h203
              refine ev_const (v := nI 1) dM_valueOf_206 (by decide) ?_
              refine ev_goto (tgt := 211) dM_valueOf_207 (by decide) ?_
              refine ev_is dM_valueOf_211 rfl (Nat.le_of_ble_eq_true rfl) ?_
              have gm : ¬ (tMk t ts k = 45 ∧ nx = true) := by
                rintro ⟨g1, g2⟩
                first | exact h136 g1 | (rw [g2] at h141; cases h141; done)
              unfold eStp at h
              rw [if_neg h31, if_neg h97, if_neg gm, if_neg h168] at h
              first
              | (have hcl : decide (tMk t ts k = 97 ∧ tMk t ts (k + 1) = 40) = true := decide_eq_true (And.intro h190 h203)
                 exact r_v213 (cl := true) hP hk hkt hto hE (by first | assumption | rfl) (by first | assumption | rfl) (by first | assumption | rfl) (by first | assumption | rfl) (by first | assumption | rfl) hnv rfl (by rw [← hcl]; split at h <;> (rename_i hc; rw [hcl] at hc; first | (cases hc; done) | (have h := Option.some.inj h; rw [hcl, ← h]; rfl))) hK)
              | (have hcl : decide (tMk t ts k = 97 ∧ tMk t ts (k + 1) = 40) = false := decide_eq_false (fun g => h190 g.1)
                 exact r_v213 (cl := false) hP hk hkt hto hE (by first | assumption | rfl) (by first | assumption | rfl) (by first | assumption | rfl) (by first | assumption | rfl) (by first | assumption | rfl) hnv rfl (by rw [← hcl]; split at h <;> (rename_i hc; rw [hcl] at hc; first | (cases hc; done) | (have h := Option.some.inj h; rw [hcl, ← h]; rfl))) hK)
              | (have hcl : decide (tMk t ts k = 97 ∧ tMk t ts (k + 1) = 40) = false := decide_eq_false (fun g => h203 g.2)
                 exact r_v213 (cl := false) hP hk hkt hto hE (by first | assumption | rfl) (by first | assumption | rfl) (by first | assumption | rfl) (by first | assumption | rfl) (by first | assumption | rfl) hnv rfl (by rw [← hcl]; split at h <;> (rename_i hc; rw [hcl] at hc; first | (cases hc; done) | (have h := Option.some.inj h; rw [hcl, ← h]; rfl))) hK)
        · simp (disch := omega) only [zcond, nI_eq, Classical.not_not] at h168
          rw [tMk_sig (t := t) hkd hsg] at h168
          refine ev_al dM_valueOf_171 rfl (by first | assumption | rfl) ?_
          refine ev_il dM_valueOf_172 rfl (by first | assumption | rfl) ?_
          refine ev_cV dM_valueOf_174 (r_operate hP hk (show k < ts.length by omega) hE) lM_212 rec_M rfl (Nat.le_of_ble_eq_true rfl) rfl (Nat.le_of_ble_eq_true rfl) (fun z M2 hz => ?_)
          obtain ⟨rfl, hs2, hE2⟩ := hz
          refine ev_const (v := nI 1) dM_valueOf_177 (by decide) ?_
          refine ev_is dM_valueOf_178 rfl (Nat.le_of_ble_eq_true rfl) ?_
          refine ev_goto (tgt := 275) dM_valueOf_180 (by decide) ?_
          refine ev_inc1 dM_valueOf_275 (by first | assumption | rfl) ?_
          refine ev_goto (tgt := 17) dM_valueOf_278 (by decide) ?_
          first
          | (subst h
             exact hK _ _ (hs2.tr hs3) hE3 (by first | assumption | rfl) (by first | assumption | rfl) (by first | assumption | rfl) (by first | assumption | rfl) rfl rfl)
          | (subst h
             refine hK _ _ ((zSame.rf sE M).I (by unfold sE; omega)) ?_ (by first | assumption | rfl) (by first | assumption | rfl) (by first | assumption | rfl) (by first | assumption | rfl) (by first | assumption | rfl) rfl
             refine hE.new ((zI_o (by omega)).trans hd) ⟨(zI_o (by omega)).trans t1, (zI_o (by omega)).trans t2, (zI_o (by omega)).trans t3, zI_s _ _ _ _, (zI_o (by omega)).trans t5, (zI_o (by omega)).trans t6, by show x.2.2.2.1 + 1 < 2 ^ 30; omega⟩ ?_
             intro i hi o h1 h2
             have hir : i ≠ r.length := by omega
             simp [zI_at, hir])
          | (have gm : ¬ (tMk t ts k = 45 ∧ nx = true) := by
               rintro ⟨g1, g2⟩
               first | exact h136 g1 | (rw [g2] at h141; cases h141; done)
             unfold eStp at h
             rw [if_neg h31, if_neg h97, if_neg gm, if_pos h168] at h
             have h := Option.some.inj h
             subst h
             exact hK _ _ hs2 hE2 (by first | assumption | rfl) (by first | assumption | rfl) (by first | assumption | rfl) (by first | assumption | rfl) rfl rfl)
      · simp only [zcond, zb0, Classical.not_not, Bool.not_eq_false, Bool.not_eq_true, decide_eq_true_eq, decide_eq_false_iff_not] at h136
        refine ev_il dM_valueOf_139 rfl (by first | assumption | rfl) ?_
        refine ev_if0 (tgt := 160) dM_valueOf_141 (by decide) (fun h141 => ?_) (fun h141 => ?_)
        · simp only [zcond, zb0, Classical.not_not, Bool.not_eq_false, Bool.not_eq_true] at h141
          refine ev_al dM_valueOf_160 rfl (by first | assumption | rfl) ?_
          refine ev_getrP dM_valueOf_161 fM_23 rfl (zq (q := 30) hP rfl) ?_
          refine ev_il dM_valueOf_164 rfl (by first | assumption | rfl) ?_
          refine ev_aldN dM_valueOf_166 rfl rfl (by omega) ?_
          rw [hq3]
          refine ev_const (v := nI 3) dM_valueOf_167 (by decide) ?_
          refine ev_icmp (tgt := 183) dM_valueOf_168 (by decide) (fun h168 => ?_) (fun h168 => ?_)
          · simp (disch := omega) only [zcond, nI_eq, Classical.not_not] at h168
            rw [tMk_sig (t := t) hkd hsg] at h168
            refine ev_al dM_valueOf_183 rfl (by first | assumption | rfl) ?_
            refine ev_getrP dM_valueOf_184 fM_23 rfl (zq (q := 30) hP rfl) ?_
            refine ev_il dM_valueOf_187 rfl (by first | assumption | rfl) ?_
            refine ev_aldN dM_valueOf_189 rfl rfl (by omega) ?_
            rw [hq3]
            refine ev_if0 (tgt := 210) dM_valueOf_190 (by decide) (fun h190 => ?_) (fun h190 => ?_)
            · simp (disch := omega) only [zcond, nI_eq, Classical.not_not] at h190
              rw [tMk_kind (t := t) (m := 97) (by omega) hkd hsg] at h190
              refine ev_const (v := nI 0) dM_valueOf_210 (by decide) ?_
              refine ev_is dM_valueOf_211 rfl (Nat.le_of_ble_eq_true rfl) ?_
              have gm : ¬ (tMk t ts k = 45 ∧ nx = true) := by
                rintro ⟨g1, g2⟩
                first | exact h136 g1 | (rw [g2] at h141; cases h141; done)
              unfold eStp at h
              rw [if_neg h31, if_neg h97, if_neg gm, if_neg h168] at h
              first
              | (have hcl : decide (tMk t ts k = 97 ∧ tMk t ts (k + 1) = 40) = true := decide_eq_true (And.intro h190 h203)
                 exact r_v213 (cl := true) hP hk hkt hto hE (by first | assumption | rfl) (by first | assumption | rfl) (by first | assumption | rfl) (by first | assumption | rfl) (by first | assumption | rfl) hnv rfl (by rw [← hcl]; split at h <;> (rename_i hc; rw [hcl] at hc; first | (cases hc; done) | (have h := Option.some.inj h; rw [hcl, ← h]; rfl))) hK)
              | (have hcl : decide (tMk t ts k = 97 ∧ tMk t ts (k + 1) = 40) = false := decide_eq_false (fun g => h190 g.1)
                 exact r_v213 (cl := false) hP hk hkt hto hE (by first | assumption | rfl) (by first | assumption | rfl) (by first | assumption | rfl) (by first | assumption | rfl) (by first | assumption | rfl) hnv rfl (by rw [← hcl]; split at h <;> (rename_i hc; rw [hcl] at hc; first | (cases hc; done) | (have h := Option.some.inj h; rw [hcl, ← h]; rfl))) hK)
              | (have hcl : decide (tMk t ts k = 97 ∧ tMk t ts (k + 1) = 40) = false := decide_eq_false (fun g => h203 g.2)
                 exact r_v213 (cl := false) hP hk hkt hto hE (by first | assumption | rfl) (by first | assumption | rfl) (by first | assumption | rfl) (by first | assumption | rfl) (by first | assumption | rfl) hnv rfl (by rw [← hcl]; split at h <;> (rename_i hc; rw [hcl] at hc; first | (cases hc; done) | (have h := Option.some.inj h; rw [hcl, ← h]; rfl))) hK)
            · simp (disch := omega) only [zcond, nI_eq, Classical.not_not] at h190
              rw [tMk_kind (t := t) (m := 97) (by omega) hkd hsg] at h190
              refine ev_al dM_valueOf_193 rfl (by first | assumption | rfl) ?_
              refine ev_il dM_valueOf_194 rfl (by first | assumption | rfl) ?_
              refine ev_const (v := nI 1) dM_valueOf_196 (by decide) ?_
              first | with_reducible refine ev_addN dM_valueOf_197 ?_ | refine ev_add dM_valueOf_197 ?_
              refine ev_const (v := nI 40) dM_valueOf_198 (by decide) ?_
              refine ev_pV dM_valueOf_200 (r_is hP hk (show k + 1 < ts.length by omega) (by decide)) lM_153 rec_M rfl (Nat.le_of_ble_eq_true rfl) rfl (Nat.le_of_ble_eq_true rfl) ?_
              refine ev_if0 (tgt := 210) dM_valueOf_203 (by decide) (fun h203 => ?_) (fun h203 => ?_)
              · simp only [zcond, zb0, Classical.not_not, Bool.not_eq_false, Bool.not_eq_true, decide_eq_true_eq, decide_eq_false_iff_not] at h203
                refine ev_const (v := nI 0) dM_valueOf_210 (by decide) ?_
                refine ev_is dM_valueOf_211 rfl (Nat.le_of_ble_eq_true rfl) ?_
                have gm : ¬ (tMk t ts k = 45 ∧ nx = true) := by
                  rintro ⟨g1, g2⟩
                  first | exact h136 g1 | (rw [g2] at h141; cases h141; done)
                unfold eStp at h
                rw [if_neg h31, if_neg h97, if_neg gm, if_neg h168] at h
                first
                | (have hcl : decide (tMk t ts k = 97 ∧ tMk t ts (k + 1) = 40) = true := decide_eq_true (And.intro h190 h203)
                   exact r_v213 (cl := true) hP hk hkt hto hE (by first | assumption | rfl) (by first | assumption | rfl) (by first | assumption | rfl) (by first | assumption | rfl) (by first | assumption | rfl) hnv rfl (by rw [← hcl]; split at h <;> (rename_i hc; rw [hcl] at hc; first | (cases hc; done) | (have h := Option.some.inj h; rw [hcl, ← h]; rfl))) hK)
                | (have hcl : decide (tMk t ts k = 97 ∧ tMk t ts (k + 1) = 40) = false := decide_eq_false (fun g => h190 g.1)
                   exact r_v213 (cl := false) hP hk hkt hto hE (by first | assumption | rfl) (by first | assumption | rfl) (by first | assumption | rfl) (by first | assumption | rfl) (by first | assumption | rfl) hnv rfl (by rw [← hcl]; split at h <;> (rename_i hc; rw [hcl] at hc; first | (cases hc; done) | (have h := Option.some.inj h; rw [hcl, ← h]; rfl))) hK)
                | (have hcl : decide (tMk t ts k = 97 ∧ tMk t ts (k + 1) = 40) = false := decide_eq_false (fun g => h203 g.2)
                   exact r_v213 (cl := false) hP hk hkt hto hE (by first | assumption | rfl) (by first | assumption | rfl) (by first | assumption | rfl) (by first | assumption | rfl) (by first | assumption | rfl) hnv rfl (by rw [← hcl]; split at h <;> (rename_i hc; rw [hcl] at hc; first | (cases hc; done) | (have h := Option.some.inj h; rw [hcl, ← h]; rfl))) hK)
              · simp only [zcond, zb0, Classical.not_not, Bool.not_eq_false, Bool.not_eq_true, decide_eq_true_eq, decide_eq_false_iff_not] at h203
                refine ev_const (v := nI 1) dM_valueOf_206 (by decide) ?_
                refine ev_goto (tgt := 211) dM_valueOf_207 (by decide) ?_
                refine ev_is dM_valueOf_211 rfl (Nat.le_of_ble_eq_true rfl) ?_
                have gm : ¬ (tMk t ts k = 45 ∧ nx = true) := by
                  rintro ⟨g1, g2⟩
                  first | exact h136 g1 | (rw [g2] at h141; cases h141; done)
                unfold eStp at h
                rw [if_neg h31, if_neg h97, if_neg gm, if_neg h168] at h
                first
                | (have hcl : decide (tMk t ts k = 97 ∧ tMk t ts (k + 1) = 40) = true := decide_eq_true (And.intro h190 h203)
                   exact r_v213 (cl := true) hP hk hkt hto hE (by first | assumption | rfl) (by first | assumption | rfl) (by first | assumption | rfl) (by first | assumption | rfl) (by first | assumption | rfl) hnv rfl (by rw [← hcl]; split at h <;> (rename_i hc; rw [hcl] at hc; first | (cases hc; done) | (have h := Option.some.inj h; rw [hcl, ← h]; rfl))) hK)
                | (have hcl : decide (tMk t ts k = 97 ∧ tMk t ts (k + 1) = 40) = false := decide_eq_false (fun g => h190 g.1)
                   exact r_v213 (cl := false) hP hk hkt hto hE (by first | assumption | rfl) (by first | assumption | rfl) (by first | assumption | rfl) (by first | assumption | rfl) (by first | assumption | rfl) hnv rfl (by rw [← hcl]; split at h <;> (rename_i hc; rw [hcl] at hc; first | (cases hc; done) | (have h := Option.some.inj h; rw [hcl, ← h]; rfl))) hK)
                | (have hcl : decide (tMk t ts k = 97 ∧ tMk t ts (k + 1) = 40) = false := decide_eq_false (fun g => h203 g.2)
                   exact r_v213 (cl := false) hP hk hkt hto hE (by first | assumption | rfl) (by first | assumption | rfl) (by first | assumption | rfl) (by first | assumption | rfl) (by first | assumption | rfl) hnv rfl (by rw [← hcl]; split at h <;> (rename_i hc; rw [hcl] at hc; first | (cases hc; done) | (have h := Option.some.inj h; rw [hcl, ← h]; rfl))) hK)
          · simp (disch := omega) only [zcond, nI_eq, Classical.not_not] at h168
            rw [tMk_sig (t := t) hkd hsg] at h168
            refine ev_al dM_valueOf_171 rfl (by first | assumption | rfl) ?_
            refine ev_il dM_valueOf_172 rfl (by first | assumption | rfl) ?_
            refine ev_cV dM_valueOf_174 (r_operate hP hk (show k < ts.length by omega) hE) lM_212 rec_M rfl (Nat.le_of_ble_eq_true rfl) rfl (Nat.le_of_ble_eq_true rfl) (fun z M2 hz => ?_)
            obtain ⟨rfl, hs2, hE2⟩ := hz
            refine ev_const (v := nI 1) dM_valueOf_177 (by decide) ?_
            refine ev_is dM_valueOf_178 rfl (Nat.le_of_ble_eq_true rfl) ?_
            refine ev_goto (tgt := 275) dM_valueOf_180 (by decide) ?_
            refine ev_inc1 dM_valueOf_275 (by first | assumption | rfl) ?_
            refine ev_goto (tgt := 17) dM_valueOf_278 (by decide) ?_
            first
            | (subst h
               exact hK _ _ (hs2.tr hs3) hE3 (by first | assumption | rfl) (by first | assumption | rfl) (by first | assumption | rfl) (by first | assumption | rfl) rfl rfl)
            | (subst h
               refine hK _ _ ((zSame.rf sE M).I (by unfold sE; omega)) ?_ (by first | assumption | rfl) (by first | assumption | rfl) (by first | assumption | rfl) (by first | assumption | rfl) (by first | assumption | rfl) rfl
               refine hE.new ((zI_o (by omega)).trans hd) ⟨(zI_o (by omega)).trans t1, (zI_o (by omega)).trans t2, (zI_o (by omega)).trans t3, zI_s _ _ _ _, (zI_o (by omega)).trans t5, (zI_o (by omega)).trans t6, by show x.2.2.2.1 + 1 < 2 ^ 30; omega⟩ ?_
               intro i hi o h1 h2
               have hir : i ≠ r.length := by omega
               simp [zI_at, hir])
            | (have gm : ¬ (tMk t ts k = 45 ∧ nx = true) := by
                 rintro ⟨g1, g2⟩
                 first | exact h136 g1 | (rw [g2] at h141; cases h141; done)
               unfold eStp at h
               rw [if_neg h31, if_neg h97, if_neg gm, if_pos h168] at h
               have h := Option.some.inj h
               subst h
               exact hK _ _ hs2 hE2 (by first | assumption | rfl) (by first | assumption | rfl) (by first | assumption | rfl) (by first | assumption | rfl) rfl rfl)
        · simp only [zcond, zb0, Classical.not_not, Bool.not_eq_false, Bool.not_eq_true] at h141
          unfold eStp at h
          rw [if_neg h31, if_neg h97, if_pos (And.intro h136 h141)] at h
          have hm : ¬ 2 ^ 29 ≤ x.2.2.2.1 := fun hm => by rw [if_pos hm] at h; cases h
          rw [if_neg hm] at h
          have h := Option.some.inj h
          obtain ⟨t1, t2, t3, t4, t5, t6, t7⟩ := hE.top
          refine ev_al dM_valueOf_144 rfl (by first | assumption | rfl) ?_
          refine ev_getrP dM_valueOf_145 fM_88 rfl (zq (q := 50) hP rfl) ?_
          refine ev_al dM_valueOf_148 rfl (by first | assumption | rfl) ?_
          refine ev_geti dM_valueOf_149 fM_191 rfl ?_
          rw [hd]
          refine ev_stk dM_valueOf_152 rfl ?_
          refine ev_aldN dM_valueOf_153 rfl rfl (by omega) ?_
          rw [t4]
          refine ev_const (v := nI 1) dM_valueOf_154 (by decide) ?_
          first | with_reducible refine ev_addN dM_valueOf_155 ?_ | refine ev_add dM_valueOf_155 ?_
          refine ev_iastN dM_valueOf_156 rfl (by omega) ?_
          refine ev_goto (tgt := 275) dM_valueOf_157 (by decide) ?_
          refine ev_inc1 dM_valueOf_275 (by first | assumption | rfl) ?_
          refine ev_goto (tgt := 17) dM_valueOf_278 (by decide) ?_
          first
          | (subst h
             exact hK _ _ (hs2.tr hs3) hE3 (by first | assumption | rfl) (by first | assumption | rfl) (by first | assumption | rfl) (by first | assumption | rfl) rfl rfl)
          | (subst h
             refine hK _ _ ((zSame.rf sE M).I (by unfold sE; omega)) ?_ (by first | assumption | rfl) (by first | assumption | rfl) (by first | assumption | rfl) (by first | assumption | rfl) (by first | assumption | rfl) rfl
             refine hE.new ((zI_o (by omega)).trans hd) ⟨(zI_o (by omega)).trans t1, (zI_o (by omega)).trans t2, (zI_o (by omega)).trans t3, zI_s _ _ _ _, (zI_o (by omega)).trans t5, (zI_o (by omega)).trans t6, by show x.2.2.2.1 + 1 < 2 ^ 30; omega⟩ ?_
             intro i hi o h1 h2
             have hir : i ≠ r.length := by omega
             simp [zI_at, hir])
          | (have gm : ¬ (tMk t ts k = 45 ∧ nx = true) := by
               rintro ⟨g1, g2⟩
               first | exact h136 g1 | (rw [g2] at h141; cases h141; done)
             unfold eStp at h
             rw [if_neg h31, if_neg h97, if_neg gm, if_pos h168] at h
             have h := Option.some.inj h
             subst h
             exact hK _ _ hs2 hE2 (by first | assumption | rfl) (by first | assumption | rfl) (by first | assumption | rfl) (by first | assumption | rfl) rfl rfl)
    · simp only [zcond, zb0, Classical.not_not, Bool.not_eq_false, Bool.not_eq_true, decide_eq_true_eq, decide_eq_false_iff_not] at h97
      unfold eStp at h
      rw [if_neg h31, if_pos h97] at h
      have hk0 : ¬ k = 0 := fun hk0 => by rw [if_pos hk0] at h; cases h
      rw [if_neg hk0] at h
      obtain ⟨u, r', rfl⟩ : ∃ u r', r = u :: r' := by
        cases r with
        | nil => cases h
        | cons u r' => exact ⟨u, r', rfl⟩
      have h := Option.some.inj h
      refine ev_al dM_valueOf_100 rfl (by first | assumption | rfl) ?_
      refine ev_al dM_valueOf_101 rfl (by first | assumption | rfl) ?_
      refine ev_il dM_valueOf_102 rfl (by first | assumption | rfl) ?_
      refine ev_const (v := nI 1) dM_valueOf_104 (by decide) ?_
      first | with_reducible refine ev_subN dM_valueOf_105 (by omega) ?_ | refine ev_sub dM_valueOf_105 ?_
      refine ev_const (v := nI 40) dM_valueOf_106 (by decide) ?_
      refine ev_pV dM_valueOf_108 (r_is hP hk (show k - 1 < ts.length by omega) (by decide)) lM_153 rec_M rfl (Nat.le_of_ble_eq_true rfl) rfl (Nat.le_of_ble_eq_true rfl) ?_
      refine ev_cV dM_valueOf_111 (r_leave (em := decide (tMk t ts (k - 1) = 40)) hP hE) lM_204 rec_M rfl (Nat.le_of_ble_eq_true rfl) rfl (Nat.le_of_ble_eq_true rfl) (fun z M2 hz => ?_)
      obtain ⟨rfl, hs2, hE2⟩ := hz
      have hP2 : M2.2.1 = zP0 n b := by rw [hs2.1]; exact hP
      refine ev_is dM_valueOf_114 rfl (Nat.le_of_ble_eq_true rfl) ?_
      refine ev_al dM_valueOf_116 rfl (by first | assumption | rfl) ?_
      refine ev_il dM_valueOf_117 rfl (by first | assumption | rfl) ?_
      refine ev_cV dM_valueOf_119 (r_take (M := M2) hP2 hE2) lM_208 rec_M rfl (Nat.le_of_ble_eq_true rfl) rfl (Nat.le_of_ble_eq_true rfl) (fun z M3 hz => ?_)
      obtain ⟨rfl, hs3, hE3⟩ := hz
      refine ev_const (v := nI 0) dM_valueOf_122 (by decide) ?_
      refine ev_is dM_valueOf_123 rfl (Nat.le_of_ble_eq_true rfl) ?_
      refine ev_goto (tgt := 275) dM_valueOf_125 (by decide) ?_
      refine ev_inc1 dM_valueOf_275 (by first | assumption | rfl) ?_
      refine ev_goto (tgt := 17) dM_valueOf_278 (by decide) ?_
      first
      | (subst h
         exact hK _ _ (hs2.tr hs3) hE3 (by first | assumption | rfl) (by first | assumption | rfl) (by first | assumption | rfl) (by first | assumption | rfl) rfl rfl)
      | (subst h
         refine hK _ _ ((zSame.rf sE M).I (by unfold sE; omega)) ?_ (by first | assumption | rfl) (by first | assumption | rfl) (by first | assumption | rfl) (by first | assumption | rfl) (by first | assumption | rfl) rfl
         refine hE.new ((zI_o (by omega)).trans hd) ⟨(zI_o (by omega)).trans t1, (zI_o (by omega)).trans t2, (zI_o (by omega)).trans t3, zI_s _ _ _ _, (zI_o (by omega)).trans t5, (zI_o (by omega)).trans t6, by show x.2.2.2.1 + 1 < 2 ^ 30; omega⟩ ?_
         intro i hi o h1 h2
         have hir : i ≠ r.length := by omega
         simp [zI_at, hir])
      | (have gm : ¬ (tMk t ts k = 45 ∧ nx = true) := by
           rintro ⟨g1, g2⟩
           first | exact h136 g1 | (rw [g2] at h141; cases h141; done)
         unfold eStp at h
         rw [if_neg h31, if_neg h97, if_neg gm, if_pos h168] at h
         have h := Option.some.inj h
         subst h
         exact hK _ _ hs2 hE2 (by first | assumption | rfl) (by first | assumption | rfl) (by first | assumption | rfl) (by first | assumption | rfl) rfl rfl)
  · simp only [zcond, zb0, Classical.not_not, Bool.not_eq_false, Bool.not_eq_true, decide_eq_true_eq, decide_eq_false_iff_not] at h31
    unfold eStp at h
    rw [if_pos h31] at h
    have hk0 : ¬ (k = 0 ∨ 15 ≤ r.length) := fun hk0 => by rw [if_pos hk0] at h; cases h
    rw [if_neg hk0] at h
    have h := Option.some.inj h
    obtain ⟨hp1, hp2, hp3⟩ := hk.2.1.2 (k - 1) _ (tk_at (show k - 1 < ts.length by omega))
    have hkd1 : (tk ts (k - 1)).2.2 < 5 := by have := hk.2.2.1.2.2.1 (k - 1) _ (tk_at (show k - 1 < ts.length by omega)); omega
    have hsg1 := hk.2.2.2 (k - 1) (by omega)
    refine ev_al dM_valueOf_34 rfl (by first | assumption | rfl) ?_
    refine ev_getrP dM_valueOf_35 fM_23 rfl (zq (q := 30) hP rfl) ?_
    refine ev_il dM_valueOf_38 rfl (by first | assumption | rfl) ?_
    refine ev_const (v := nI 1) dM_valueOf_40 (by decide) ?_
    first | with_reducible refine ev_subN dM_valueOf_41 (by omega) ?_ | refine ev_sub dM_valueOf_41 ?_
    refine ev_aldN dM_valueOf_42 rfl rfl (by omega) ?_
    rw [hp3]
    refine ev_if0 (tgt := 56) dM_valueOf_43 (by decide) (fun h43 => ?_) (fun h43 => ?_)
    · simp (disch := omega) only [zcond, nI_eq, Classical.not_not] at h43
      rw [tMk_kind (t := t) (m := 97) (by omega) hkd1 hsg1] at h43
      refine ev_const (v := nI 0) dM_valueOf_56 (by decide) ?_
      refine ev_is dM_valueOf_57 rfl (Nat.le_of_ble_eq_true rfl) ?_
      first
      | (rw [decide_eq_true (And.intro h43 h49)] at h
         exact r_v59 (cl := true) hP hk hkt hto hE (by first | assumption | rfl) (by first | assumption | rfl) (by first | assumption | rfl) (by first | assumption | rfl) (by first | assumption | rfl) (by omega) (by omega) rfl h.symm hK)
      | (rw [decide_eq_false (fun g => h43 g.1)] at h
         exact r_v59 (cl := false) hP hk hkt hto hE (by first | assumption | rfl) (by first | assumption | rfl) (by first | assumption | rfl) (by first | assumption | rfl) (by first | assumption | rfl) (by omega) (by omega) rfl h.symm hK)
      | (rw [decide_eq_false (fun g => Nat.not_lt.mpr h49 g.2)] at h
         exact r_v59 (cl := false) hP hk hkt hto hE (by first | assumption | rfl) (by first | assumption | rfl) (by first | assumption | rfl) (by first | assumption | rfl) (by first | assumption | rfl) (by omega) (by omega) rfl h.symm hK)
    · simp (disch := omega) only [zcond, nI_eq, Classical.not_not] at h43
      rw [tMk_kind (t := t) (m := 97) (by omega) hkd1 hsg1] at h43
      refine ev_il dM_valueOf_46 rfl (by first | assumption | rfl) ?_
      refine ev_il dM_valueOf_48 rfl (by first | assumption | rfl) ?_
      refine ev_icmp (tgt := 56) dM_valueOf_49 (by decide) (fun h49 => ?_) (fun h49 => ?_)
      · try simp (disch := omega) only [zcond, nI_ltI, nI_leI, nI_eq, zb0, Classical.not_not, Bool.not_eq_false, Bool.not_eq_true, Nat.not_lt, Nat.not_le] at h49
        refine ev_const (v := nI 0) dM_valueOf_56 (by decide) ?_
        refine ev_is dM_valueOf_57 rfl (Nat.le_of_ble_eq_true rfl) ?_
        first
        | (rw [decide_eq_true (And.intro h43 h49)] at h
           exact r_v59 (cl := true) hP hk hkt hto hE (by first | assumption | rfl) (by first | assumption | rfl) (by first | assumption | rfl) (by first | assumption | rfl) (by first | assumption | rfl) (by omega) (by omega) rfl h.symm hK)
        | (rw [decide_eq_false (fun g => h43 g.1)] at h
           exact r_v59 (cl := false) hP hk hkt hto hE (by first | assumption | rfl) (by first | assumption | rfl) (by first | assumption | rfl) (by first | assumption | rfl) (by first | assumption | rfl) (by omega) (by omega) rfl h.symm hK)
        | (rw [decide_eq_false (fun g => Nat.not_lt.mpr h49 g.2)] at h
           exact r_v59 (cl := false) hP hk hkt hto hE (by first | assumption | rfl) (by first | assumption | rfl) (by first | assumption | rfl) (by first | assumption | rfl) (by first | assumption | rfl) (by omega) (by omega) rfl h.symm hK)
      · try simp (disch := omega) only [zcond, nI_ltI, nI_leI, nI_eq, zb0, Classical.not_not, Bool.not_eq_false, Bool.not_eq_true, Nat.not_lt, Nat.not_le] at h49
        refine ev_const (v := nI 1) dM_valueOf_52 (by decide) ?_
        refine ev_goto (tgt := 57) dM_valueOf_53 (by decide) ?_
        refine ev_is dM_valueOf_57 rfl (Nat.le_of_ble_eq_true rfl) ?_
        first
        | (rw [decide_eq_true (And.intro h43 h49)] at h
           exact r_v59 (cl := true) hP hk hkt hto hE (by first | assumption | rfl) (by first | assumption | rfl) (by first | assumption | rfl) (by first | assumption | rfl) (by first | assumption | rfl) (by omega) (by omega) rfl h.symm hK)
        | (rw [decide_eq_false (fun g => h43 g.1)] at h
           exact r_v59 (cl := false) hP hk hkt hto hE (by first | assumption | rfl) (by first | assumption | rfl) (by first | assumption | rfl) (by first | assumption | rfl) (by first | assumption | rfl) (by omega) (by omega) rfl h.symm hK)
        | (rw [decide_eq_false (fun g => Nat.not_lt.mpr h49 g.2)] at h
           exact r_v59 (cl := false) hP hk hkt hto hE (by first | assumption | rfl) (by first | assumption | rfl) (by first | assumption | rfl) (by first | assumption | rfl) (by first | assumption | rfl) (by omega) (by omega) rfl h.symm hK)
end
