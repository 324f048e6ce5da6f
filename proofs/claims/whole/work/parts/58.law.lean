/- the law's own code, call by call (rows laid by program) -/
/-- the law's locals: the script, the two objects, the row of one long, the place -/
def lwL (L : Nat → Value) (k : Nat) : Prop := L 0 = .ref 1000 ∧ L 1 = .ref 0 ∧ L 2 = .ref 25 ∧ L 3 = .ref 53 ∧ L 4 = .int (nI k)
theorem lwL.set {L : Nat → Value} {k i : Nat} {v : Value} (h : lwL L k) (hi : 5 ≤ i) : lwL (zu L i v) k := by
  obtain ⟨h0, h1, h2, h3, h4⟩ := h
  exact ⟨(zu_ne (by omega)).trans h0, (zu_ne (by omega)).trans h1, (zu_ne (by omega)).trans h2, (zu_ne (by omega)).trans h3, (zu_ne (by omega)).trans h4⟩
def lwQ (k K : Nat) : zQ := fun pc' L' st' M' => pc' = 23 ∧ st' = [] ∧ lwL L' (k + 3) ∧ zInv M' K
theorem lg_same (x : Int64) : lg_cmp x x = 0 := by
  unfold lg_cmp
  rw [if_neg Int64.lt_irrefl, if_pos rfl]
theorem i2c_nI (x : Int32) : ∃ c : Nat, c < 65536 ∧ (x.toUInt32 % 65536).toInt32 = nI c := by
  refine ⟨(x.toUInt32 % 65536).toNat, ?_, ?_⟩
  · rw [UInt32.toNat_mod]
    exact Nat.mod_lt _ (by decide)
  · apply Int32.toBitVec_inj.mp
    apply BitVec.eq_of_toNat_eq
    have h : (x.toUInt32 % 65536).toNat < 2 ^ 32 := (x.toUInt32 % 65536).toNat_lt
    rw [pk_tn h]
    rfl
section
variable {Lx : Nat} {xs : Nat → Int32} {d : Nat} {M : zM} {L : Nat → Value} {k K : Nat}
theorem ev_sldN {y : zY} {pc i : Nat} {st : List Value} {Q : zQ} (h0 : decode y.2.1 pc = .ok (.iaload, 1)) (hi : i < Lx) (hL : Lx < 2 ^ 31) (h : Ev Lx xs d y (pc + 1) L (.int (xs i) :: st) M Q) : Ev Lx xs d y pc L (.int (nI i) :: .ref 1000 :: st) M Q :=
  ev_sld h0 (pk_in i Lx hi rfl hL) (by rw [nI_clamp (by omega)]; exact h)
theorem l_613 (hL : lwL L k) (h : zInv M K) : Ev Lx xs d mW_law 613 L [] M (lwQ k K) := by
  refine ev_inc dW_law_613 hL.2.2.2.2 ?_
  refine ev_goto (tgt := 23) dW_law_616 (by decide) ?_
  refine ev_done ⟨rfl, rfl, ⟨(zu_ne (by omega)).trans hL.1, (zu_ne (by omega)).trans hL.2.1, (zu_ne (by omega)).trans hL.2.2.1, (zu_ne (by omega)).trans hL.2.2.2.1, ?_⟩, h⟩
  rw [zu_same, show Int32.ofInt 3 = nI 3 from by decide, nI_add]
theorem lw_gt (hk : k ≤ 2000) (hL : Lx ≤ 2000) : nI Lx - nI 3 < nI k ↔ Lx < k + 3 := by
  rw [Int32.lt_iff_toInt_lt, pk_sub_toInt (by omega) (by omega), nI_toInt (by omega)]
  omega
theorem l_end (hL : lwL L k) (hk : k ≤ 2000) (hLx : Lx ≤ 2000) (hend : Lx < k + 3) : Ev Lx xs d mW_law 23 L [] M (fun pc' _ st' M' => pc' = 620 ∧ st' = [.int 1] ∧ M' = M) := by
  refine ev_il dW_law_23 rfl hL.2.2.2.2 ?_
  refine ev_al dW_law_25 rfl hL.1 ?_
  refine ev_slen dW_law_26 ?_
  refine ev_const (v := nI 3) dW_law_27 (by decide) ?_
  refine ev_sub dW_law_28 ?_
  refine ev_icmp (tgt := 619) dW_law_29 (by decide) (fun _ => ?_) (fun h => (h ((lw_gt hk hLx).mpr hend)).elim)
  refine ev_const (v := 1) dW_law_619 (by decide) ?_
  exact ev_done ⟨rfl, rfl, rfl⟩
theorem l_sw {Q : zQ} (hL : lwL L k) (hk : k ≤ 2000) (hLx : Lx ≤ 2000) (hgo : k + 3 ≤ Lx) (hQ : ∀ c : Nat, c < 16 → ∃ t : Nat, ((39 : Nat) : Int) + (#[77, 104, 117, 185, 198, 223, 236, 292, 305, 318, 331, 356, 381, 437, 493, 518] : Array Int)[c]! = (t : Int) ∧ Ev Lx xs d mW_law t L [] M Q) : Ev Lx xs d mW_law 23 L [] M Q := by
  refine ev_il dW_law_23 rfl hL.2.2.2.2 ?_
  refine ev_al dW_law_25 rfl hL.1 ?_
  refine ev_slen dW_law_26 ?_
  refine ev_const (v := nI 3) dW_law_27 (by decide) ?_
  refine ev_sub dW_law_28 ?_
  refine ev_icmp (tgt := 619) dW_law_29 (by decide) (fun h => ?_) (fun _ => ?_)
  · have := (lw_gt hk hLx).mp h
    omega
  refine ev_al dW_law_32 rfl hL.1 ?_
  refine ev_il dW_law_33 rfl hL.2.2.2.2 ?_
  refine ev_sldN dW_law_35 (by omega) (by omega) ?_
  refine ev_const (v := nI 15) dW_law_36 (by decide) ?_
  refine ev_and dW_law_38 ?_
  obtain ⟨c, hc, he⟩ := pk_andE (xs k) (m := nI 15) 4 (by decide)
  rw [he]
  obtain ⟨t, ht, hE⟩ := hQ c hc
  have hc : c < 16 := hc
  have hz : (nI c).toInt = (c : Int) := nI_toInt (by omega)
  refine ev_tin dW_law_39 (by rw [hz]; omega) (by rw [hz]; omega) (off := (#[77, 104, 117, 185, 198, 223, 236, 292, 305, 318, 331, 356, 381, 437, 493, 518] : Array Int)[c]!) ?_ ht hE
  rw [hz, show ((c : Int) - 0).toNat = c by omega]
  rcases (show c = 0 ∨ c = 1 ∨ c = 2 ∨ c = 3 ∨ c = 4 ∨ c = 5 ∨ c = 6 ∨ c = 7 ∨ c = 8 ∨ c = 9 ∨ c = 10 ∨ c = 11 ∨ c = 12 ∨ c = 13 ∨ c = 14 ∨ c = 15 by omega) with rfl | rfl | rfl | rfl | rfl | rfl | rfl | rfl | rfl | rfl | rfl | rfl | rfl | rfl | rfl | rfl <;> rfl
set_option maxRecDepth 100000 in
theorem lp_type (hL : lwL L k) (hgo : k + 3 ≤ Lx) (hLx : Lx ≤ 2000) (hT : ∀ c, c < 65536 → Tv Lx xs d mK_type mM_type [.int (nI c)] M K) : Ev Lx xs (d + 1) mW_law 116 L [] M (lwQ k K) := by
  obtain ⟨c, hc, he⟩ := i2c_nI (xs (k + 1))
  obtain ⟨R0, hR0, hR1⟩ := hT c hc
  refine ev_al dW_law_116 rfl hL.2.1 ?_
  refine ev_al dW_law_117 rfl hL.1 ?_
  refine ev_il dW_law_118 rfl hL.2.2.2.2 ?_
  refine ev_const (v := nI 1) dW_law_120 (by decide) ?_
  refine ev_addN dW_law_121 ?_
  refine ev_sldN dW_law_122 (by omega) (by omega) ?_
  refine ev_un dW_law_123 rfl ?_
  rw [he]
  refine ev_cV dW_law_124 hR0 lW_34 rec_K rfl (Nat.le_of_ble_eq_true rfl) rfl (Nat.le_of_ble_eq_true rfl) (fun o1 M1 ho1 => ?_)
  obtain ⟨v, rfl, R2, hR2, hR3⟩ := hR1 o1 M1 ho1
  refine ev_al dW_law_127 rfl hL.2.2.1 ?_
  refine ev_al dW_law_128 rfl hL.1 ?_
  refine ev_il dW_law_129 rfl hL.2.2.2.2 ?_
  refine ev_const (v := nI 1) dW_law_131 (by decide) ?_
  refine ev_addN dW_law_132 ?_
  refine ev_sldN dW_law_133 (by omega) (by omega) ?_
  refine ev_un dW_law_134 rfl ?_
  rw [he]
  refine ev_cV dW_law_135 hR2 lW_38 rec_M rfl (Nat.le_of_ble_eq_true rfl) rfl (Nat.le_of_ble_eq_true rfl) (fun o2 M2 ho2 => ?_)
  obtain ⟨rfl, hI⟩ := hR3 o2 M2 ho2
  exact ev_icmp (tgt := 613) dW_law_138 (by decide) (fun _ => l_613 hL hI) (fun h => (h rfl).elim)
set_option maxRecDepth 100000 in
theorem lp_wipe (hL : lwL L k) (hT : Tv Lx xs d mK_wipe mM_wipe [] M K) : Ev Lx xs (d + 1) mW_law 143 L [] M (lwQ k K) := by
  obtain ⟨R0, hR0, hR1⟩ := hT
  refine ev_al dW_law_143 rfl hL.2.1 ?_
  refine ev_cV dW_law_144 hR0 lW_39 rec_K rfl (Nat.le_of_ble_eq_true rfl) rfl (Nat.le_of_ble_eq_true rfl) (fun o1 M1 ho1 => ?_)
  obtain ⟨v, rfl, R2, hR2, hR3⟩ := hR1 o1 M1 ho1
  refine ev_al dW_law_147 rfl hL.2.2.1 ?_
  refine ev_cV dW_law_148 hR2 lW_43 rec_M rfl (Nat.le_of_ble_eq_true rfl) rfl (Nat.le_of_ble_eq_true rfl) (fun o2 M2 ho2 => ?_)
  obtain ⟨rfl, hI⟩ := hR3 o2 M2 ho2
  exact ev_icmp (tgt := 613) dW_law_151 (by decide) (fun _ => l_613 hL hI) (fun h => (h rfl).elim)
set_option maxRecDepth 100000 in
theorem lp_length (hL : lwL L k) (hT : Tv Lx xs d mK_length mM_length [] M K) : Ev Lx xs (d + 1) mW_law 224 L [] M (lwQ k K) := by
  obtain ⟨R0, hR0, hR1⟩ := hT
  refine ev_al dW_law_224 rfl hL.2.1 ?_
  refine ev_cV dW_law_225 hR0 lW_53 rec_K rfl (Nat.le_of_ble_eq_true rfl) rfl (Nat.le_of_ble_eq_true rfl) (fun o1 M1 ho1 => ?_)
  obtain ⟨v, rfl, R2, hR2, hR3⟩ := hR1 o1 M1 ho1
  refine ev_al dW_law_228 rfl hL.2.2.1 ?_
  refine ev_cV dW_law_229 hR2 lW_56 rec_M rfl (Nat.le_of_ble_eq_true rfl) rfl (Nat.le_of_ble_eq_true rfl) (fun o2 M2 ho2 => ?_)
  obtain ⟨rfl, hI⟩ := hR3 o2 M2 ho2
  exact ev_icmp (tgt := 613) dW_law_232 (by decide) (fun _ => l_613 hL hI) (fun h => (h rfl).elim)
set_option maxRecDepth 100000 in
theorem lp_at (hL : lwL L k) (hgo : k + 3 ≤ Lx) (hLx : Lx ≤ 2000) (hT : Tv Lx xs d mK_at mM_at [.int (xs (k + 1))] M K) : Ev Lx xs (d + 1) mW_law 237 L [] M (lwQ k K) := by
  obtain ⟨R0, hR0, hR1⟩ := hT
  refine ev_al dW_law_237 rfl hL.2.1 ?_
  refine ev_al dW_law_238 rfl hL.1 ?_
  refine ev_il dW_law_239 rfl hL.2.2.2.2 ?_
  refine ev_const (v := nI 1) dW_law_241 (by decide) ?_
  refine ev_addN dW_law_242 ?_
  refine ev_sldN dW_law_243 (by omega) (by omega) ?_
  refine ev_cV dW_law_244 hR0 lW_57 rec_K rfl (Nat.le_of_ble_eq_true rfl) rfl (Nat.le_of_ble_eq_true rfl) (fun o1 M1 ho1 => ?_)
  obtain ⟨v, rfl, R2, hR2, hR3⟩ := hR1 o1 M1 ho1
  refine ev_al dW_law_247 rfl hL.2.2.1 ?_
  refine ev_al dW_law_248 rfl hL.1 ?_
  refine ev_il dW_law_249 rfl hL.2.2.2.2 ?_
  refine ev_const (v := nI 1) dW_law_251 (by decide) ?_
  refine ev_addN dW_law_252 ?_
  refine ev_sldN dW_law_253 (by omega) (by omega) ?_
  refine ev_cV dW_law_254 hR2 lW_61 rec_M rfl (Nat.le_of_ble_eq_true rfl) rfl (Nat.le_of_ble_eq_true rfl) (fun o2 M2 ho2 => ?_)
  obtain ⟨rfl, hI⟩ := hR3 o2 M2 ho2
  exact ev_icmp (tgt := 613) dW_law_257 (by decide) (fun _ => l_613 hL hI) (fun h => (h rfl).elim)
set_option maxRecDepth 100000 in
theorem lp_tokens (hL : lwL L k) (hT : Tv Lx xs d mK_tokens mM_tokens [] M K) : Ev Lx xs (d + 1) mW_law 262 L [] M (lwQ k K) := by
  obtain ⟨R0, hR0, hR1⟩ := hT
  refine ev_al dW_law_262 rfl hL.2.1 ?_
  refine ev_cV dW_law_263 hR0 lW_62 rec_K rfl (Nat.le_of_ble_eq_true rfl) rfl (Nat.le_of_ble_eq_true rfl) (fun o1 M1 ho1 => ?_)
  obtain ⟨v, rfl, R2, hR2, hR3⟩ := hR1 o1 M1 ho1
  refine ev_al dW_law_266 rfl hL.2.2.1 ?_
  refine ev_cV dW_law_267 hR2 lW_65 rec_M rfl (Nat.le_of_ble_eq_true rfl) rfl (Nat.le_of_ble_eq_true rfl) (fun o2 M2 ho2 => ?_)
  obtain ⟨rfl, hI⟩ := hR3 o2 M2 ho2
  exact ev_icmp (tgt := 613) dW_law_270 (by decide) (fun _ => l_613 hL hI) (fun h => (h rfl).elim)
set_option maxRecDepth 100000 in
theorem lp_fault (hL : lwL L k) (hT : Tv Lx xs d mK_fault mM_fault [] M K) : Ev Lx xs (d + 1) mW_law 331 L [] M (lwQ k K) := by
  obtain ⟨R0, hR0, hR1⟩ := hT
  refine ev_al dW_law_331 rfl hL.2.1 ?_
  refine ev_cV dW_law_332 hR0 lW_70 rec_K rfl (Nat.le_of_ble_eq_true rfl) rfl (Nat.le_of_ble_eq_true rfl) (fun o1 M1 ho1 => ?_)
  obtain ⟨v, rfl, R2, hR2, hR3⟩ := hR1 o1 M1 ho1
  refine ev_al dW_law_335 rfl hL.2.2.1 ?_
  refine ev_cV dW_law_336 hR2 lW_73 rec_M rfl (Nat.le_of_ble_eq_true rfl) rfl (Nat.le_of_ble_eq_true rfl) (fun o2 M2 ho2 => ?_)
  obtain ⟨rfl, hI⟩ := hR3 o2 M2 ho2
  exact ev_icmp (tgt := 613) dW_law_339 (by decide) (fun _ => l_613 hL hI) (fun h => (h rfl).elim)
set_option maxRecDepth 100000 in
theorem lp_items (hL : lwL L k) (hT : Tv Lx xs d mK_items mM_items [] M K) : Ev Lx xs (d + 1) mW_law 344 L [] M (lwQ k K) := by
  obtain ⟨R0, hR0, hR1⟩ := hT
  refine ev_al dW_law_344 rfl hL.2.1 ?_
  refine ev_cV dW_law_345 hR0 lW_74 rec_K rfl (Nat.le_of_ble_eq_true rfl) rfl (Nat.le_of_ble_eq_true rfl) (fun o1 M1 ho1 => ?_)
  obtain ⟨v, rfl, R2, hR2, hR3⟩ := hR1 o1 M1 ho1
  refine ev_al dW_law_348 rfl hL.2.2.1 ?_
  refine ev_cV dW_law_349 hR2 lW_77 rec_M rfl (Nat.le_of_ble_eq_true rfl) rfl (Nat.le_of_ble_eq_true rfl) (fun o2 M2 ho2 => ?_)
  obtain ⟨rfl, hI⟩ := hR3 o2 M2 ho2
  exact ev_icmp (tgt := 613) dW_law_352 (by decide) (fun _ => l_613 hL hI) (fun h => (h rfl).elim)
set_option maxRecDepth 100000 in
theorem lp_kept (hL : lwL L k) (hT : Tv Lx xs d mK_kept mM_kept [] M K) : Ev Lx xs (d + 1) mW_law 357 L [] M (lwQ k K) := by
  obtain ⟨R0, hR0, hR1⟩ := hT
  refine ev_al dW_law_357 rfl hL.2.1 ?_
  refine ev_cV dW_law_358 hR0 lW_78 rec_K rfl (Nat.le_of_ble_eq_true rfl) rfl (Nat.le_of_ble_eq_true rfl) (fun o1 M1 ho1 => ?_)
  obtain ⟨v, rfl, R2, hR2, hR3⟩ := hR1 o1 M1 ho1
  refine ev_al dW_law_361 rfl hL.2.2.1 ?_
  refine ev_cV dW_law_362 hR2 lW_81 rec_M rfl (Nat.le_of_ble_eq_true rfl) rfl (Nat.le_of_ble_eq_true rfl) (fun o2 M2 ho2 => ?_)
  obtain ⟨rfl, hI⟩ := hR3 o2 M2 ho2
  exact ev_icmp (tgt := 613) dW_law_365 (by decide) (fun _ => l_613 hL hI) (fun h => (h rfl).elim)
set_option maxRecDepth 100000 in
theorem lp_number (hL : lwL L k) (hgo : k + 3 ≤ Lx) (hLx : Lx ≤ 2000) (hT : Tv Lx xs d mK_number mM_number [.int (xs (k + 1))] M K) : Ev Lx xs (d + 1) mW_law 370 L [] M (lwQ k K) := by
  obtain ⟨R0, hR0, hR1⟩ := hT
  refine ev_al dW_law_370 rfl hL.2.1 ?_
  refine ev_al dW_law_371 rfl hL.1 ?_
  refine ev_il dW_law_372 rfl hL.2.2.2.2 ?_
  refine ev_const (v := nI 1) dW_law_374 (by decide) ?_
  refine ev_addN dW_law_375 ?_
  refine ev_sldN dW_law_376 (by omega) (by omega) ?_
  refine ev_cV dW_law_377 hR0 lW_82 rec_K rfl (Nat.le_of_ble_eq_true rfl) rfl (Nat.le_of_ble_eq_true rfl) (fun o1 M1 ho1 => ?_)
  obtain ⟨v, rfl, R2, hR2, hR3⟩ := hR1 o1 M1 ho1
  refine ev_al dW_law_380 rfl hL.2.2.1 ?_
  refine ev_al dW_law_381 rfl hL.1 ?_
  refine ev_il dW_law_382 rfl hL.2.2.2.2 ?_
  refine ev_const (v := nI 1) dW_law_384 (by decide) ?_
  refine ev_addN dW_law_385 ?_
  refine ev_sldN dW_law_386 (by omega) (by omega) ?_
  refine ev_cV dW_law_387 hR2 lW_85 rec_M rfl (Nat.le_of_ble_eq_true rfl) rfl (Nat.le_of_ble_eq_true rfl) (fun o2 M2 ho2 => ?_)
  obtain ⟨rfl, hI⟩ := hR3 o2 M2 ho2
  exact ev_icmp (tgt := 613) dW_law_390 (by decide) (fun _ => l_613 hL hI) (fun h => (h rfl).elim)
set_option maxRecDepth 100000 in
theorem lp_which (hL : lwL L k) (hgo : k + 3 ≤ Lx) (hLx : Lx ≤ 2000) (hT : Tv Lx xs d mK_which mM_which [.int (xs (k + 1))] M K) : Ev Lx xs (d + 1) mW_law 395 L [] M (lwQ k K) := by
  obtain ⟨R0, hR0, hR1⟩ := hT
  refine ev_al dW_law_395 rfl hL.2.1 ?_
  refine ev_al dW_law_396 rfl hL.1 ?_
  refine ev_il dW_law_397 rfl hL.2.2.2.2 ?_
  refine ev_const (v := nI 1) dW_law_399 (by decide) ?_
  refine ev_addN dW_law_400 ?_
  refine ev_sldN dW_law_401 (by omega) (by omega) ?_
  refine ev_cV dW_law_402 hR0 lW_86 rec_K rfl (Nat.le_of_ble_eq_true rfl) rfl (Nat.le_of_ble_eq_true rfl) (fun o1 M1 ho1 => ?_)
  obtain ⟨v, rfl, R2, hR2, hR3⟩ := hR1 o1 M1 ho1
  refine ev_al dW_law_405 rfl hL.2.2.1 ?_
  refine ev_al dW_law_406 rfl hL.1 ?_
  refine ev_il dW_law_407 rfl hL.2.2.2.2 ?_
  refine ev_const (v := nI 1) dW_law_409 (by decide) ?_
  refine ev_addN dW_law_410 ?_
  refine ev_sldN dW_law_411 (by omega) (by omega) ?_
  refine ev_cV dW_law_412 hR2 lW_89 rec_M rfl (Nat.le_of_ble_eq_true rfl) rfl (Nat.le_of_ble_eq_true rfl) (fun o2 M2 ho2 => ?_)
  obtain ⟨rfl, hI⟩ := hR3 o2 M2 ho2
  exact ev_icmp (tgt := 613) dW_law_415 (by decide) (fun _ => l_613 hL hI) (fun h => (h rfl).elim)
set_option maxRecDepth 100000 in
theorem lp_level (hL : lwL L k) (hgo : k + 3 ≤ Lx) (hLx : Lx ≤ 2000) (hT : Tv Lx xs d mK_level mM_level [.int (xs (k + 1))] M K) : Ev Lx xs (d + 1) mW_law 532 L [] M (lwQ k K) := by
  obtain ⟨R0, hR0, hR1⟩ := hT
  refine ev_al dW_law_532 rfl hL.2.1 ?_
  refine ev_al dW_law_533 rfl hL.1 ?_
  refine ev_il dW_law_534 rfl hL.2.2.2.2 ?_
  refine ev_const (v := nI 1) dW_law_536 (by decide) ?_
  refine ev_addN dW_law_537 ?_
  refine ev_sldN dW_law_538 (by omega) (by omega) ?_
  refine ev_cV dW_law_539 hR0 lW_96 rec_K rfl (Nat.le_of_ble_eq_true rfl) rfl (Nat.le_of_ble_eq_true rfl) (fun o1 M1 ho1 => ?_)
  obtain ⟨v, rfl, R2, hR2, hR3⟩ := hR1 o1 M1 ho1
  refine ev_al dW_law_542 rfl hL.2.2.1 ?_
  refine ev_al dW_law_543 rfl hL.1 ?_
  refine ev_il dW_law_544 rfl hL.2.2.2.2 ?_
  refine ev_const (v := nI 1) dW_law_546 (by decide) ?_
  refine ev_addN dW_law_547 ?_
  refine ev_sldN dW_law_548 (by omega) (by omega) ?_
  refine ev_cV dW_law_549 hR2 lW_99 rec_M rfl (Nat.le_of_ble_eq_true rfl) rfl (Nat.le_of_ble_eq_true rfl) (fun o2 M2 ho2 => ?_)
  obtain ⟨rfl, hI⟩ := hR3 o2 M2 ho2
  exact ev_icmp (tgt := 613) dW_law_552 (by decide) (fun _ => l_613 hL hI) (fun h => (h rfl).elim)
set_option maxRecDepth 100000 in
theorem lt_edit (hL : lwL L k) (hgo : k + 3 ≤ Lx) (hLx : Lx ≤ 2000) : Ev Lx xs d mW_law 156 L [] M (fun pc' L' st' M' => pc' = 170 ∧ L' = L ∧ st' = [.ref 53, .int (xs (k + 2)), .int (xs (k + 1)), .ref 0] ∧ M' = M) := by
  refine ev_al dW_law_156 rfl hL.2.1 ?_
  refine ev_al dW_law_157 rfl hL.1 ?_
  refine ev_il dW_law_158 rfl hL.2.2.2.2 ?_
  refine ev_const (v := nI 1) dW_law_160 (by decide) ?_
  refine ev_addN dW_law_161 ?_
  refine ev_sldN dW_law_162 (by omega) (by omega) ?_
  refine ev_al dW_law_163 rfl hL.1 ?_
  refine ev_il dW_law_164 rfl hL.2.2.2.2 ?_
  refine ev_const (v := nI 2) dW_law_166 (by decide) ?_
  refine ev_addN dW_law_167 ?_
  refine ev_sldN dW_law_168 (by omega) (by omega) ?_
  refine ev_al dW_law_169 rfl hL.2.2.2.1 ?_
  exact ev_done ⟨rfl, rfl, rfl, rfl⟩
set_option maxRecDepth 100000 in
theorem lb_edit_n {v : Int32} {M0 : zM} (hL : lwL L k) (hgo : k + 3 ≤ Lx) (hLx : Lx ≤ 2000) (hC : Cx Lx xs d mM_edit [.ref 25, .int (xs (k + 1)), .int (xs (k + 2))] (zJ M0 v.toInt64) (fun o' M' => o' = some v ∧ M'.2.2 = v.toInt64 ∧ M'.1 25 0 = nI 0 ∧ zInv M' K)) : Ev Lx xs (d + 1) mW_law 173 L [.int (nI 0)] (zJ M0 v.toInt64) (lwQ k K) := by
  obtain ⟨R0, hR0, hR1⟩ := hC
  refine ev_is dW_law_173 rfl (Nat.le_of_ble_eq_true rfl) ?_
  have hL := hL.set (i := 5) (v := .int (nI 0)) (by decide)
  refine ev_al dW_law_175 rfl hL.2.2.1 ?_
  refine ev_al dW_law_176 rfl hL.1 ?_
  refine ev_il dW_law_177 rfl hL.2.2.2.2 ?_
  refine ev_const (v := nI 1) dW_law_179 (by decide) ?_
  refine ev_addN dW_law_180 ?_
  refine ev_sldN dW_law_181 (by omega) (by omega) ?_
  refine ev_al dW_law_182 rfl hL.1 ?_
  refine ev_il dW_law_183 rfl hL.2.2.2.2 ?_
  refine ev_const (v := nI 2) dW_law_185 (by decide) ?_
  refine ev_addN dW_law_186 ?_
  refine ev_sldN dW_law_187 (by omega) (by omega) ?_
  refine ev_cV dW_law_188 hR0 lW_49 rec_M rfl (Nat.le_of_ble_eq_true rfl) rfl (Nat.le_of_ble_eq_true rfl) (fun o1 M1 ho1 => ?_)
  obtain ⟨rfl, hJ, hth, hI⟩ := hR1 o1 M1 ho1
  refine ev_is dW_law_191 rfl (Nat.le_of_ble_eq_true rfl) ?_
  have hL := hL.set (i := 6) (v := .int v) (by decide)
  obtain ⟨n, b, hP⟩ := hI.P
  refine ev_al dW_law_193 rfl hL.2.2.1 ?_
  refine ev_pV dW_law_194 (r_thrown hP) lW_50 rec_M rfl (Nat.le_of_ble_eq_true rfl) rfl (Nat.le_of_ble_eq_true rfl) ?_
  rw [hth]
  refine ev_il dW_law_197 rfl rfl ?_
  refine ev_icmp (tgt := 204) dW_law_199 (by decide) (fun _ => ?_) (fun h => (h rfl).elim)
  refine ev_il dW_law_204 rfl rfl ?_
  refine ev_if0 (tgt := 221) dW_law_206 (by decide) (fun h => (h rfl).elim) (fun _ => ?_)
  refine ev_al dW_law_209 rfl hL.2.2.2.1 ?_
  refine ev_const (v := nI 0) dW_law_210 (by decide) ?_
  refine ev_lald dW_law_211 rfl (pk_in 0 1 (by decide)) ?_
  rw [hJ]
  refine ev_il dW_law_212 rfl rfl ?_
  refine ev_i2l dW_law_214 ?_
  refine ev_lcmp dW_law_215 ?_
  rw [lg_same]
  refine ev_if (tgt := 221) dW_law_216 (by decide) (fun _ => ?_) (fun h => (h rfl).elim)
  exact ev_goto (tgt := 613) dW_law_221 (by decide) (l_613 hL hI)
set_option maxRecDepth 100000 in
theorem lb_edit_x {c : Nat} (hc : c = 1 ∨ c = 2) (hL : lwL L k) (hgo : k + 3 ≤ Lx) (hLx : Lx ≤ 2000) (hC : Cx Lx xs d mM_edit [.ref 25, .int (xs (k + 1)), .int (xs (k + 2))] M (fun o' M' => (∃ v, o' = some v) ∧ M'.1 25 0 = nI c ∧ zInv M' K)) : Ev Lx xs (d + 1) mW_law 173 L [.int (nI c)] M (lwQ k K) := by
  obtain ⟨R0, hR0, hR1⟩ := hC
  refine ev_is dW_law_173 rfl (Nat.le_of_ble_eq_true rfl) ?_
  have hL := hL.set (i := 5) (v := .int (nI c)) (by decide)
  refine ev_al dW_law_175 rfl hL.2.2.1 ?_
  refine ev_al dW_law_176 rfl hL.1 ?_
  refine ev_il dW_law_177 rfl hL.2.2.2.2 ?_
  refine ev_const (v := nI 1) dW_law_179 (by decide) ?_
  refine ev_addN dW_law_180 ?_
  refine ev_sldN dW_law_181 (by omega) (by omega) ?_
  refine ev_al dW_law_182 rfl hL.1 ?_
  refine ev_il dW_law_183 rfl hL.2.2.2.2 ?_
  refine ev_const (v := nI 2) dW_law_185 (by decide) ?_
  refine ev_addN dW_law_186 ?_
  refine ev_sldN dW_law_187 (by omega) (by omega) ?_
  refine ev_cV dW_law_188 hR0 lW_49 rec_M rfl (Nat.le_of_ble_eq_true rfl) rfl (Nat.le_of_ble_eq_true rfl) (fun o1 M1 ho1 => ?_)
  obtain ⟨⟨w, rfl⟩, hth, hI⟩ := hR1 o1 M1 ho1
  refine ev_is dW_law_191 rfl (Nat.le_of_ble_eq_true rfl) ?_
  have hL := hL.set (i := 6) (v := .int w) (by decide)
  obtain ⟨n, b, hP⟩ := hI.P
  refine ev_al dW_law_193 rfl hL.2.2.1 ?_
  refine ev_pV dW_law_194 (r_thrown hP) lW_50 rec_M rfl (Nat.le_of_ble_eq_true rfl) rfl (Nat.le_of_ble_eq_true rfl) ?_
  rw [hth]
  refine ev_il dW_law_197 rfl rfl ?_
  refine ev_icmp (tgt := 204) dW_law_199 (by decide) (fun _ => ?_) (fun h => (h rfl).elim)
  refine ev_il dW_law_204 rfl rfl ?_
  refine ev_if0 (tgt := 221) dW_law_206 (by decide) (fun _ => ?_) (fun h => (h (fun hh => by rcases hc with rfl | rfl <;> revert hh <;> decide)).elim)
  exact ev_goto (tgt := 613) dW_law_221 (by decide) (l_613 hL hI)
set_option maxRecDepth 100000 in
theorem lt_token (hL : lwL L k) (hgo : k + 3 ≤ Lx) (hLx : Lx ≤ 2000) : Ev Lx xs d mW_law 275 L [] M (fun pc' L' st' M' => pc' = 283 ∧ L' = L ∧ st' = [.ref 53, .int (xs (k + 1)), .ref 0] ∧ M' = M) := by
  refine ev_al dW_law_275 rfl hL.2.1 ?_
  refine ev_al dW_law_276 rfl hL.1 ?_
  refine ev_il dW_law_277 rfl hL.2.2.2.2 ?_
  refine ev_const (v := nI 1) dW_law_279 (by decide) ?_
  refine ev_addN dW_law_280 ?_
  refine ev_sldN dW_law_281 (by omega) (by omega) ?_
  refine ev_al dW_law_282 rfl hL.2.2.2.1 ?_
  exact ev_done ⟨rfl, rfl, rfl, rfl⟩
set_option maxRecDepth 100000 in
theorem lb_token_n {v : Int32} {M0 : zM} (hL : lwL L k) (hgo : k + 3 ≤ Lx) (hLx : Lx ≤ 2000) (hC : Cx Lx xs d mM_token [.ref 25, .int (xs (k + 1))] (zJ M0 v.toInt64) (fun o' M' => o' = some v ∧ M'.2.2 = v.toInt64 ∧ M'.1 25 0 = nI 0 ∧ zInv M' K)) : Ev Lx xs (d + 1) mW_law 286 L [.int (nI 0)] (zJ M0 v.toInt64) (lwQ k K) := by
  obtain ⟨R0, hR0, hR1⟩ := hC
  refine ev_is dW_law_286 rfl (Nat.le_of_ble_eq_true rfl) ?_
  have hL := hL.set (i := 5) (v := .int (nI 0)) (by decide)
  refine ev_al dW_law_288 rfl hL.2.2.1 ?_
  refine ev_al dW_law_289 rfl hL.1 ?_
  refine ev_il dW_law_290 rfl hL.2.2.2.2 ?_
  refine ev_const (v := nI 1) dW_law_292 (by decide) ?_
  refine ev_addN dW_law_293 ?_
  refine ev_sldN dW_law_294 (by omega) (by omega) ?_
  refine ev_cV dW_law_295 hR0 lW_69 rec_M rfl (Nat.le_of_ble_eq_true rfl) rfl (Nat.le_of_ble_eq_true rfl) (fun o1 M1 ho1 => ?_)
  obtain ⟨rfl, hJ, hth, hI⟩ := hR1 o1 M1 ho1
  refine ev_is dW_law_298 rfl (Nat.le_of_ble_eq_true rfl) ?_
  have hL := hL.set (i := 6) (v := .int v) (by decide)
  obtain ⟨n, b, hP⟩ := hI.P
  refine ev_al dW_law_300 rfl hL.2.2.1 ?_
  refine ev_pV dW_law_301 (r_thrown hP) lW_50 rec_M rfl (Nat.le_of_ble_eq_true rfl) rfl (Nat.le_of_ble_eq_true rfl) ?_
  rw [hth]
  refine ev_il dW_law_304 rfl rfl ?_
  refine ev_icmp (tgt := 311) dW_law_306 (by decide) (fun _ => ?_) (fun h => (h rfl).elim)
  refine ev_il dW_law_311 rfl rfl ?_
  refine ev_if0 (tgt := 328) dW_law_313 (by decide) (fun h => (h rfl).elim) (fun _ => ?_)
  refine ev_al dW_law_316 rfl hL.2.2.2.1 ?_
  refine ev_const (v := nI 0) dW_law_317 (by decide) ?_
  refine ev_lald dW_law_318 rfl (pk_in 0 1 (by decide)) ?_
  rw [hJ]
  refine ev_il dW_law_319 rfl rfl ?_
  refine ev_i2l dW_law_321 ?_
  refine ev_lcmp dW_law_322 ?_
  rw [lg_same]
  refine ev_if (tgt := 328) dW_law_323 (by decide) (fun _ => ?_) (fun h => (h rfl).elim)
  exact ev_goto (tgt := 613) dW_law_328 (by decide) (l_613 hL hI)
set_option maxRecDepth 100000 in
theorem lb_token_x {c : Nat} (hc : c = 1 ∨ c = 2) (hL : lwL L k) (hgo : k + 3 ≤ Lx) (hLx : Lx ≤ 2000) (hC : Cx Lx xs d mM_token [.ref 25, .int (xs (k + 1))] M (fun o' M' => (∃ v, o' = some v) ∧ M'.1 25 0 = nI c ∧ zInv M' K)) : Ev Lx xs (d + 1) mW_law 286 L [.int (nI c)] M (lwQ k K) := by
  obtain ⟨R0, hR0, hR1⟩ := hC
  refine ev_is dW_law_286 rfl (Nat.le_of_ble_eq_true rfl) ?_
  have hL := hL.set (i := 5) (v := .int (nI c)) (by decide)
  refine ev_al dW_law_288 rfl hL.2.2.1 ?_
  refine ev_al dW_law_289 rfl hL.1 ?_
  refine ev_il dW_law_290 rfl hL.2.2.2.2 ?_
  refine ev_const (v := nI 1) dW_law_292 (by decide) ?_
  refine ev_addN dW_law_293 ?_
  refine ev_sldN dW_law_294 (by omega) (by omega) ?_
  refine ev_cV dW_law_295 hR0 lW_69 rec_M rfl (Nat.le_of_ble_eq_true rfl) rfl (Nat.le_of_ble_eq_true rfl) (fun o1 M1 ho1 => ?_)
  obtain ⟨⟨w, rfl⟩, hth, hI⟩ := hR1 o1 M1 ho1
  refine ev_is dW_law_298 rfl (Nat.le_of_ble_eq_true rfl) ?_
  have hL := hL.set (i := 6) (v := .int w) (by decide)
  obtain ⟨n, b, hP⟩ := hI.P
  refine ev_al dW_law_300 rfl hL.2.2.1 ?_
  refine ev_pV dW_law_301 (r_thrown hP) lW_50 rec_M rfl (Nat.le_of_ble_eq_true rfl) rfl (Nat.le_of_ble_eq_true rfl) ?_
  rw [hth]
  refine ev_il dW_law_304 rfl rfl ?_
  refine ev_icmp (tgt := 311) dW_law_306 (by decide) (fun _ => ?_) (fun h => (h rfl).elim)
  refine ev_il dW_law_311 rfl rfl ?_
  refine ev_if0 (tgt := 328) dW_law_313 (by decide) (fun _ => ?_) (fun h => (h (fun hh => by rcases hc with rfl | rfl <;> revert hh <;> decide)).elim)
  exact ev_goto (tgt := 613) dW_law_328 (by decide) (l_613 hL hI)
set_option maxRecDepth 100000 in
theorem lt_begin (hL : lwL L k) (hgo : k + 3 ≤ Lx) (hLx : Lx ≤ 2000) : Ev Lx xs d mW_law 420 L [] M (fun pc' L' st' M' => pc' = 428 ∧ L' = L ∧ st' = [.ref 53, .int (xs (k + 1)), .ref 0] ∧ M' = M) := by
  refine ev_al dW_law_420 rfl hL.2.1 ?_
  refine ev_al dW_law_421 rfl hL.1 ?_
  refine ev_il dW_law_422 rfl hL.2.2.2.2 ?_
  refine ev_const (v := nI 1) dW_law_424 (by decide) ?_
  refine ev_addN dW_law_425 ?_
  refine ev_sldN dW_law_426 (by omega) (by omega) ?_
  refine ev_al dW_law_427 rfl hL.2.2.2.1 ?_
  exact ev_done ⟨rfl, rfl, rfl, rfl⟩
set_option maxRecDepth 100000 in
theorem lb_begin_n {v : Int32} {M0 : zM} (hL : lwL L k) (hgo : k + 3 ≤ Lx) (hLx : Lx ≤ 2000) (hC : Cx Lx xs d mM_begin [.ref 25, .int (xs (k + 1))] (zJ M0 v.toInt64) (fun o' M' => o' = some v ∧ M'.2.2 = v.toInt64 ∧ M'.1 25 0 = nI 0 ∧ zInv M' K)) : Ev Lx xs (d + 1) mW_law 431 L [.int (nI 0)] (zJ M0 v.toInt64) (lwQ k K) := by
  obtain ⟨R0, hR0, hR1⟩ := hC
  refine ev_is dW_law_431 rfl (Nat.le_of_ble_eq_true rfl) ?_
  have hL := hL.set (i := 5) (v := .int (nI 0)) (by decide)
  refine ev_al dW_law_433 rfl hL.2.2.1 ?_
  refine ev_al dW_law_434 rfl hL.1 ?_
  refine ev_il dW_law_435 rfl hL.2.2.2.2 ?_
  refine ev_const (v := nI 1) dW_law_437 (by decide) ?_
  refine ev_addN dW_law_438 ?_
  refine ev_sldN dW_law_439 (by omega) (by omega) ?_
  refine ev_cV dW_law_440 hR0 lW_92 rec_M rfl (Nat.le_of_ble_eq_true rfl) rfl (Nat.le_of_ble_eq_true rfl) (fun o1 M1 ho1 => ?_)
  obtain ⟨rfl, hJ, hth, hI⟩ := hR1 o1 M1 ho1
  refine ev_is dW_law_443 rfl (Nat.le_of_ble_eq_true rfl) ?_
  have hL := hL.set (i := 6) (v := .int v) (by decide)
  obtain ⟨n, b, hP⟩ := hI.P
  refine ev_al dW_law_445 rfl hL.2.2.1 ?_
  refine ev_pV dW_law_446 (r_thrown hP) lW_50 rec_M rfl (Nat.le_of_ble_eq_true rfl) rfl (Nat.le_of_ble_eq_true rfl) ?_
  rw [hth]
  refine ev_il dW_law_449 rfl rfl ?_
  refine ev_icmp (tgt := 456) dW_law_451 (by decide) (fun _ => ?_) (fun h => (h rfl).elim)
  refine ev_il dW_law_456 rfl rfl ?_
  refine ev_if0 (tgt := 473) dW_law_458 (by decide) (fun h => (h rfl).elim) (fun _ => ?_)
  refine ev_al dW_law_461 rfl hL.2.2.2.1 ?_
  refine ev_const (v := nI 0) dW_law_462 (by decide) ?_
  refine ev_lald dW_law_463 rfl (pk_in 0 1 (by decide)) ?_
  rw [hJ]
  refine ev_il dW_law_464 rfl rfl ?_
  refine ev_i2l dW_law_466 ?_
  refine ev_lcmp dW_law_467 ?_
  rw [lg_same]
  refine ev_if (tgt := 473) dW_law_468 (by decide) (fun _ => ?_) (fun h => (h rfl).elim)
  exact ev_goto (tgt := 613) dW_law_473 (by decide) (l_613 hL hI)
set_option maxRecDepth 100000 in
theorem lb_begin_x {c : Nat} (hc : c = 1 ∨ c = 2) (hL : lwL L k) (hgo : k + 3 ≤ Lx) (hLx : Lx ≤ 2000) (hC : Cx Lx xs d mM_begin [.ref 25, .int (xs (k + 1))] M (fun o' M' => (∃ v, o' = some v) ∧ M'.1 25 0 = nI c ∧ zInv M' K)) : Ev Lx xs (d + 1) mW_law 431 L [.int (nI c)] M (lwQ k K) := by
  obtain ⟨R0, hR0, hR1⟩ := hC
  refine ev_is dW_law_431 rfl (Nat.le_of_ble_eq_true rfl) ?_
  have hL := hL.set (i := 5) (v := .int (nI c)) (by decide)
  refine ev_al dW_law_433 rfl hL.2.2.1 ?_
  refine ev_al dW_law_434 rfl hL.1 ?_
  refine ev_il dW_law_435 rfl hL.2.2.2.2 ?_
  refine ev_const (v := nI 1) dW_law_437 (by decide) ?_
  refine ev_addN dW_law_438 ?_
  refine ev_sldN dW_law_439 (by omega) (by omega) ?_
  refine ev_cV dW_law_440 hR0 lW_92 rec_M rfl (Nat.le_of_ble_eq_true rfl) rfl (Nat.le_of_ble_eq_true rfl) (fun o1 M1 ho1 => ?_)
  obtain ⟨⟨w, rfl⟩, hth, hI⟩ := hR1 o1 M1 ho1
  refine ev_is dW_law_443 rfl (Nat.le_of_ble_eq_true rfl) ?_
  have hL := hL.set (i := 6) (v := .int w) (by decide)
  obtain ⟨n, b, hP⟩ := hI.P
  refine ev_al dW_law_445 rfl hL.2.2.1 ?_
  refine ev_pV dW_law_446 (r_thrown hP) lW_50 rec_M rfl (Nat.le_of_ble_eq_true rfl) rfl (Nat.le_of_ble_eq_true rfl) ?_
  rw [hth]
  refine ev_il dW_law_449 rfl rfl ?_
  refine ev_icmp (tgt := 456) dW_law_451 (by decide) (fun _ => ?_) (fun h => (h rfl).elim)
  refine ev_il dW_law_456 rfl rfl ?_
  refine ev_if0 (tgt := 473) dW_law_458 (by decide) (fun _ => ?_) (fun h => (h (fun hh => by rcases hc with rfl | rfl <;> revert hh <;> decide)).elim)
  exact ev_goto (tgt := 613) dW_law_473 (by decide) (l_613 hL hI)
set_option maxRecDepth 100000 in
theorem lt_end (hL : lwL L k) (hgo : k + 3 ≤ Lx) (hLx : Lx ≤ 2000) : Ev Lx xs d mW_law 476 L [] M (fun pc' L' st' M' => pc' = 484 ∧ L' = L ∧ st' = [.ref 53, .int (xs (k + 1)), .ref 0] ∧ M' = M) := by
  refine ev_al dW_law_476 rfl hL.2.1 ?_
  refine ev_al dW_law_477 rfl hL.1 ?_
  refine ev_il dW_law_478 rfl hL.2.2.2.2 ?_
  refine ev_const (v := nI 1) dW_law_480 (by decide) ?_
  refine ev_addN dW_law_481 ?_
  refine ev_sldN dW_law_482 (by omega) (by omega) ?_
  refine ev_al dW_law_483 rfl hL.2.2.2.1 ?_
  exact ev_done ⟨rfl, rfl, rfl, rfl⟩
set_option maxRecDepth 100000 in
theorem lb_end_n {v : Int32} {M0 : zM} (hL : lwL L k) (hgo : k + 3 ≤ Lx) (hLx : Lx ≤ 2000) (hC : Cx Lx xs d mM_end [.ref 25, .int (xs (k + 1))] (zJ M0 v.toInt64) (fun o' M' => o' = some v ∧ M'.2.2 = v.toInt64 ∧ M'.1 25 0 = nI 0 ∧ zInv M' K)) : Ev Lx xs (d + 1) mW_law 487 L [.int (nI 0)] (zJ M0 v.toInt64) (lwQ k K) := by
  obtain ⟨R0, hR0, hR1⟩ := hC
  refine ev_is dW_law_487 rfl (Nat.le_of_ble_eq_true rfl) ?_
  have hL := hL.set (i := 5) (v := .int (nI 0)) (by decide)
  refine ev_al dW_law_489 rfl hL.2.2.1 ?_
  refine ev_al dW_law_490 rfl hL.1 ?_
  refine ev_il dW_law_491 rfl hL.2.2.2.2 ?_
  refine ev_const (v := nI 1) dW_law_493 (by decide) ?_
  refine ev_addN dW_law_494 ?_
  refine ev_sldN dW_law_495 (by omega) (by omega) ?_
  refine ev_cV dW_law_496 hR0 lW_95 rec_M rfl (Nat.le_of_ble_eq_true rfl) rfl (Nat.le_of_ble_eq_true rfl) (fun o1 M1 ho1 => ?_)
  obtain ⟨rfl, hJ, hth, hI⟩ := hR1 o1 M1 ho1
  refine ev_is dW_law_499 rfl (Nat.le_of_ble_eq_true rfl) ?_
  have hL := hL.set (i := 6) (v := .int v) (by decide)
  obtain ⟨n, b, hP⟩ := hI.P
  refine ev_al dW_law_501 rfl hL.2.2.1 ?_
  refine ev_pV dW_law_502 (r_thrown hP) lW_50 rec_M rfl (Nat.le_of_ble_eq_true rfl) rfl (Nat.le_of_ble_eq_true rfl) ?_
  rw [hth]
  refine ev_il dW_law_505 rfl rfl ?_
  refine ev_icmp (tgt := 512) dW_law_507 (by decide) (fun _ => ?_) (fun h => (h rfl).elim)
  refine ev_il dW_law_512 rfl rfl ?_
  refine ev_if0 (tgt := 529) dW_law_514 (by decide) (fun h => (h rfl).elim) (fun _ => ?_)
  refine ev_al dW_law_517 rfl hL.2.2.2.1 ?_
  refine ev_const (v := nI 0) dW_law_518 (by decide) ?_
  refine ev_lald dW_law_519 rfl (pk_in 0 1 (by decide)) ?_
  rw [hJ]
  refine ev_il dW_law_520 rfl rfl ?_
  refine ev_i2l dW_law_522 ?_
  refine ev_lcmp dW_law_523 ?_
  rw [lg_same]
  refine ev_if (tgt := 529) dW_law_524 (by decide) (fun _ => ?_) (fun h => (h rfl).elim)
  exact ev_goto (tgt := 613) dW_law_529 (by decide) (l_613 hL hI)
set_option maxRecDepth 100000 in
theorem lb_end_x {c : Nat} (hc : c = 1 ∨ c = 2) (hL : lwL L k) (hgo : k + 3 ≤ Lx) (hLx : Lx ≤ 2000) (hC : Cx Lx xs d mM_end [.ref 25, .int (xs (k + 1))] M (fun o' M' => (∃ v, o' = some v) ∧ M'.1 25 0 = nI c ∧ zInv M' K)) : Ev Lx xs (d + 1) mW_law 487 L [.int (nI c)] M (lwQ k K) := by
  obtain ⟨R0, hR0, hR1⟩ := hC
  refine ev_is dW_law_487 rfl (Nat.le_of_ble_eq_true rfl) ?_
  have hL := hL.set (i := 5) (v := .int (nI c)) (by decide)
  refine ev_al dW_law_489 rfl hL.2.2.1 ?_
  refine ev_al dW_law_490 rfl hL.1 ?_
  refine ev_il dW_law_491 rfl hL.2.2.2.2 ?_
  refine ev_const (v := nI 1) dW_law_493 (by decide) ?_
  refine ev_addN dW_law_494 ?_
  refine ev_sldN dW_law_495 (by omega) (by omega) ?_
  refine ev_cV dW_law_496 hR0 lW_95 rec_M rfl (Nat.le_of_ble_eq_true rfl) rfl (Nat.le_of_ble_eq_true rfl) (fun o1 M1 ho1 => ?_)
  obtain ⟨⟨w, rfl⟩, hth, hI⟩ := hR1 o1 M1 ho1
  refine ev_is dW_law_499 rfl (Nat.le_of_ble_eq_true rfl) ?_
  have hL := hL.set (i := 6) (v := .int w) (by decide)
  obtain ⟨n, b, hP⟩ := hI.P
  refine ev_al dW_law_501 rfl hL.2.2.1 ?_
  refine ev_pV dW_law_502 (r_thrown hP) lW_50 rec_M rfl (Nat.le_of_ble_eq_true rfl) rfl (Nat.le_of_ble_eq_true rfl) ?_
  rw [hth]
  refine ev_il dW_law_505 rfl rfl ?_
  refine ev_icmp (tgt := 512) dW_law_507 (by decide) (fun _ => ?_) (fun h => (h rfl).elim)
  refine ev_il dW_law_512 rfl rfl ?_
  refine ev_if0 (tgt := 529) dW_law_514 (by decide) (fun _ => ?_) (fun h => (h (fun hh => by rcases hc with rfl | rfl <;> revert hh <;> decide)).elim)
  exact ev_goto (tgt := 613) dW_law_529 (by decide) (l_613 hL hI)
set_option maxRecDepth 100000 in
theorem lt_value (hL : lwL L k) (hgo : k + 3 ≤ Lx) (hLx : Lx ≤ 2000) : Ev Lx xs d mW_law 557 L [] M (fun pc' L' st' M' => pc' = 565 ∧ L' = L ∧ st' = [.ref 53, .int (xs (k + 1)), .ref 0] ∧ M' = M) := by
  refine ev_al dW_law_557 rfl hL.2.1 ?_
  refine ev_al dW_law_558 rfl hL.1 ?_
  refine ev_il dW_law_559 rfl hL.2.2.2.2 ?_
  refine ev_const (v := nI 1) dW_law_561 (by decide) ?_
  refine ev_addN dW_law_562 ?_
  refine ev_sldN dW_law_563 (by omega) (by omega) ?_
  refine ev_al dW_law_564 rfl hL.2.2.2.1 ?_
  exact ev_done ⟨rfl, rfl, rfl, rfl⟩
set_option maxRecDepth 100000 in
theorem lb_value_n {v : Int32} {M0 : zM} (hL : lwL L k) (hgo : k + 3 ≤ Lx) (hLx : Lx ≤ 2000) (hC : Cx Lx xs d mM_value [.ref 25, .int (xs (k + 1))] (zJ M0 v.toInt64) (fun o' M' => o' = some v ∧ M'.2.2 = v.toInt64 ∧ M'.1 25 0 = nI 0 ∧ zInv M' K)) : Ev Lx xs (d + 1) mW_law 568 L [.int (nI 0)] (zJ M0 v.toInt64) (lwQ k K) := by
  obtain ⟨R0, hR0, hR1⟩ := hC
  refine ev_is dW_law_568 rfl (Nat.le_of_ble_eq_true rfl) ?_
  have hL := hL.set (i := 5) (v := .int (nI 0)) (by decide)
  refine ev_al dW_law_570 rfl hL.2.2.1 ?_
  refine ev_al dW_law_571 rfl hL.1 ?_
  refine ev_il dW_law_572 rfl hL.2.2.2.2 ?_
  refine ev_const (v := nI 1) dW_law_574 (by decide) ?_
  refine ev_addN dW_law_575 ?_
  refine ev_sldN dW_law_576 (by omega) (by omega) ?_
  refine ev_cV dW_law_577 hR0 lW_102 rec_M rfl (Nat.le_of_ble_eq_true rfl) rfl (Nat.le_of_ble_eq_true rfl) (fun o1 M1 ho1 => ?_)
  obtain ⟨rfl, hJ, hth, hI⟩ := hR1 o1 M1 ho1
  refine ev_is dW_law_580 rfl (Nat.le_of_ble_eq_true rfl) ?_
  have hL := hL.set (i := 6) (v := .int v) (by decide)
  obtain ⟨n, b, hP⟩ := hI.P
  refine ev_al dW_law_582 rfl hL.2.2.1 ?_
  refine ev_pV dW_law_583 (r_thrown hP) lW_50 rec_M rfl (Nat.le_of_ble_eq_true rfl) rfl (Nat.le_of_ble_eq_true rfl) ?_
  rw [hth]
  refine ev_il dW_law_586 rfl rfl ?_
  refine ev_icmp (tgt := 593) dW_law_588 (by decide) (fun _ => ?_) (fun h => (h rfl).elim)
  refine ev_il dW_law_593 rfl rfl ?_
  refine ev_if0 (tgt := 610) dW_law_595 (by decide) (fun h => (h rfl).elim) (fun _ => ?_)
  refine ev_al dW_law_598 rfl hL.2.2.2.1 ?_
  refine ev_const (v := nI 0) dW_law_599 (by decide) ?_
  refine ev_lald dW_law_600 rfl (pk_in 0 1 (by decide)) ?_
  rw [hJ]
  refine ev_il dW_law_601 rfl rfl ?_
  refine ev_i2l dW_law_603 ?_
  refine ev_lcmp dW_law_604 ?_
  rw [lg_same]
  refine ev_if (tgt := 610) dW_law_605 (by decide) (fun _ => ?_) (fun h => (h rfl).elim)
  exact ev_goto (tgt := 613) dW_law_610 (by decide) (l_613 hL hI)
set_option maxRecDepth 100000 in
theorem lb_value_x {c : Nat} (hc : c = 1 ∨ c = 2) (hL : lwL L k) (hgo : k + 3 ≤ Lx) (hLx : Lx ≤ 2000) (hC : Cx Lx xs d mM_value [.ref 25, .int (xs (k + 1))] M (fun o' M' => (∃ v, o' = some v) ∧ M'.1 25 0 = nI c ∧ zInv M' K)) : Ev Lx xs (d + 1) mW_law 568 L [.int (nI c)] M (lwQ k K) := by
  obtain ⟨R0, hR0, hR1⟩ := hC
  refine ev_is dW_law_568 rfl (Nat.le_of_ble_eq_true rfl) ?_
  have hL := hL.set (i := 5) (v := .int (nI c)) (by decide)
  refine ev_al dW_law_570 rfl hL.2.2.1 ?_
  refine ev_al dW_law_571 rfl hL.1 ?_
  refine ev_il dW_law_572 rfl hL.2.2.2.2 ?_
  refine ev_const (v := nI 1) dW_law_574 (by decide) ?_
  refine ev_addN dW_law_575 ?_
  refine ev_sldN dW_law_576 (by omega) (by omega) ?_
  refine ev_cV dW_law_577 hR0 lW_102 rec_M rfl (Nat.le_of_ble_eq_true rfl) rfl (Nat.le_of_ble_eq_true rfl) (fun o1 M1 ho1 => ?_)
  obtain ⟨⟨w, rfl⟩, hth, hI⟩ := hR1 o1 M1 ho1
  refine ev_is dW_law_580 rfl (Nat.le_of_ble_eq_true rfl) ?_
  have hL := hL.set (i := 6) (v := .int w) (by decide)
  obtain ⟨n, b, hP⟩ := hI.P
  refine ev_al dW_law_582 rfl hL.2.2.1 ?_
  refine ev_pV dW_law_583 (r_thrown hP) lW_50 rec_M rfl (Nat.le_of_ble_eq_true rfl) rfl (Nat.le_of_ble_eq_true rfl) ?_
  rw [hth]
  refine ev_il dW_law_586 rfl rfl ?_
  refine ev_icmp (tgt := 593) dW_law_588 (by decide) (fun _ => ?_) (fun h => (h rfl).elim)
  refine ev_il dW_law_593 rfl rfl ?_
  refine ev_if0 (tgt := 610) dW_law_595 (by decide) (fun _ => ?_) (fun h => (h (fun hh => by rcases hc with rfl | rfl <;> revert hh <;> decide)).elim)
  exact ev_goto (tgt := 613) dW_law_610 (by decide) (l_613 hL hI)
end
