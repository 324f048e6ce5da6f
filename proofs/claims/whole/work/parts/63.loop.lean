/- the law's loop: judgements that count cells -/
section
variable {l : Launch} {dC : Nat → ClassId} {dI : Nat → Nat → Nat} {dA : Nat → ClassId} {ad : Nat → Nat} {B0 Lx : Nat} {xs : Nat → Int32} {d : Nat}
def WL (l : Launch) (dC : Nat → ClassId) (dI : Nat → Nat → Nat) (dA : Nat → ClassId) (ad : Nat → Nat) (B0 Lx : Nat) (xs : Nat → Int32) (d kc ks pc : Nat) (L : Nat → Value) (st : List Value) (M : zM) (Q : zQ) : Prop := ∀ (p : Program) (e : Env) (s : State) (m : MethodId) (args : Array Value) (below : List Frame) (meth : Method) (c : Code) (R : Room) (H : Heap) (locs : List Loc) (cells slots : Nat) (Q' : State → Prop) (ls : Array Slot), zCtx ad B0 Lx xs d mW_law p s m args c R (cells + kc) (slots + ks) → zEx B0 s s.heap → zl ad ls 7 L → zWd dC dI dA ad B0 s H M locs → (∀ (pc' : Nat) (L' : Nat → Value) (st' : List Value) (M' : zM) (H' : Heap) (locs' : List Loc) (ls' : Array Slot), Q pc' L' st' M' → zl ad ls' 7 L' → zWd dC dI dA ad B0 s H' M' locs' → W p l e R s m args below meth c H' locs' (cells + kc) (slots + ks) Q' (F0 m pc' ls' (st'.map (zv ad)))) → W p l e R s m args below meth c H locs cells slots Q' (F0 m pc ls (st.map (zv ad)))
theorem wl_ev {pc : Nat} {L : Nat → Value} {st : List Value} {M : zM} {Q : zQ} (h : Ev Lx xs d mW_law pc L st M Q) : WL l dC dI dA ad B0 Lx xs d 0 0 pc L st M Q := by
  intro p e s m args below meth c R H locs cells slots Q' ls C hX hl hw hq
  exact zsound h p e s m args below meth c R H locs cells slots Q' ls C hl hw hq
theorem wl_seq {kc ks kc' ks' pc : Nat} {L : Nat → Value} {st : List Value} {M : zM} {Q1 Q : zQ} (h1 : WL l dC dI dA ad B0 Lx xs d kc ks pc L st M Q1) (h2 : ∀ pc' L' st' M', Q1 pc' L' st' M' → WL l dC dI dA ad B0 Lx xs d kc' ks' pc' L' st' M' Q) : WL l dC dI dA ad B0 Lx xs d (kc + kc') (ks + ks') pc L st M Q := by
  intro p e s m args below meth c R H locs cells slots Q' ls C hX hl hw hq
  obtain ⟨c1, c2, c3, c4, c5, ⟨c6, c7, c8, c9⟩, c10⟩ := C
  refine h1 p e s m args below meth c R H locs cells slots Q' ls ⟨c1, c2, c3, c4, c5, ⟨c6, c7, by omega, by omega⟩, c10⟩ hX hl hw (fun pc' L' st' M' H' locs' ls' hQ hl' hw' => ?_)
  refine h2 pc' L' st' M' hQ p e s m args below meth c R H' locs' (cells + kc) (slots + ks) Q' ls' ⟨c1, c2, c3, c4, c5, ⟨c6, c7, by omega, by omega⟩, c10⟩ hX hl' hw' (fun pc2 L2 st2 M2 H2 locs2 ls2 hQ2 hl2 hw2 => ?_)
  have := hq pc2 L2 st2 M2 H2 locs2 ls2 hQ2 hl2 hw2
  rw [show cells + (kc + kc') = cells + kc + kc' by omega, show slots + (ks + ks') = slots + ks + ks' by omega] at this
  exact this
theorem wl_up {kc ks kc' ks' pc : Nat} {L : Nat → Value} {st : List Value} {M : zM} {Q : zQ} (h : WL l dC dI dA ad B0 Lx xs d kc ks pc L st M Q) (h1 : kc ≤ kc') (h2 : ks ≤ ks') : WL l dC dI dA ad B0 Lx xs d kc' ks' pc L st M Q := by
  intro p e s m args below meth c R H locs cells slots Q' ls C hX hl hw hq
  obtain ⟨c1, c2, c3, c4, c5, ⟨c6, c7, c8, c9⟩, c10⟩ := C
  exact h p e s m args below meth c R H locs cells slots Q' ls ⟨c1, c2, c3, c4, c5, ⟨c6, c7, by omega, by omega⟩, c10⟩ hX hl hw (fun pc' L' st' M' H' locs' ls' hQ hl' hw' => W.widen (by omega) (by omega) (hq pc' L' st' M' H' locs' ls' hQ hl' hw'))
theorem wl_to {kc ks pc : Nat} {L : Nat → Value} {st : List Value} {M : zM} {Q Q2 : zQ} (h : WL l dC dI dA ad B0 Lx xs d kc ks pc L st M Q) (hQ : ∀ pc' L' st' M', Q pc' L' st' M' → Q2 pc' L' st' M') : WL l dC dI dA ad B0 Lx xs d kc ks pc L st M Q2 := by
  intro p e s m args below meth c R H locs cells slots Q' ls C hX hl hw hq
  exact h p e s m args below meth c R H locs cells slots Q' ls C hX hl hw (fun pc' L' st' M' H' locs' ls' hh => hq pc' L' st' M' H' locs' ls' (hQ _ _ _ _ hh))
theorem zgood_SW {own : String} {idx : Nat} {k : zY} {hh : List (Nat × Nat × Nat × Nat)} (h1 : Jvm.Cond.methodLink own idx k.1 ∈ zT) (h2 : Jvm.Cond.initialized k.1.cls ∈ zT) (h3 : Jvm.Cond.codeWith k.1 k.2.1 k.2.2.1 k.2.2.2 hh ∈ zT) (h4 : Jvm.Cond.static k.1 ∈ zT) : GoodIn zT (va_wsS own idx k.1 (zwsW k hh)) := by
  intro w hw
  have hm : w ∈ zT := by
    simp only [va_wsS, zwsW, List.mem_append, List.mem_cons, List.not_mem_nil, or_false] at hw
    rcases hw with (rfl | rfl | rfl) | rfl | hw <;> assumption
  exact ⟨hm, zT_good w hm⟩
theorem wl_call {k : zY} {idx pc : Nat} {As : List Value} {post : Int32 → zM → Prop} {hh : List (Nat × Nat × Nat × Nat)} {L : Nat → Value} {M : zM} (hd : decode mW_law.2.1 pc = .ok (.invokestatic idx, 3)) (w1 : Jvm.Cond.methodLink "KeptItemsLaw" idx k.1 ∈ zT) (w2 : Jvm.Cond.initialized k.1.cls ∈ zT) (w3 : Jvm.Cond.codeWith k.1 k.2.1 k.2.2.1 k.2.2.2 hh ∈ zT) (w4 : Jvm.Cond.static k.1 ∈ zT) (hd3 : k.1.cls ≠ "java/lang/invoke/MethodHandle" ∧ k.1.cls ≠ "java/lang/invoke/VarHandle" ∧ (parseMethodDescriptor k.1.desc).map (fun d => d.parameters.length) = some As.length) (hmx : k.2.2.1 ≤ 40) (hM : Met l k.1 (zwsW k hh) (zrx d) (zPx dC dI dA ad B0 Lx xs As M) (va_Qi post (zB dC dI dA ad B0) (zA B0)) 1 6 (zA B0)) : WL l dC dI dA ad B0 Lx xs (d + 1) 1 6 pc L As.reverse M (fun pc' L' st' M' => pc' = pc + 3 ∧ L' = L ∧ ∃ r, st' = [.int r] ∧ post r M') := by
  intro p e s m args below meth c RR H locs cells slots Q' ls C hX hl hw hq
  obtain ⟨hx, hb, hml, hown, hts, ⟨hR1, hR2, hR3, hR4⟩, hE⟩ := C
  have hstk : As.reverse.map (zv ad) = (As.map (zv ad)).reverse ++ [] := by rw [List.append_nil, List.map_reverse]
  rw [hstk]
  refine va_calli (vx_runSW (As := As.map (zv ad)) (rest := []) ⟨hx, hb, hml, hown, hts⟩ hM (vx_cwSW (rm := zrx d) As.length hts (zgood_SW w1 w2 w3 w4) rfl rfl rfl hd3 ⟨hR1, by show 8 + (k.2.2.1 + 11) + 64 * d ≤ RR.locals; omega⟩) ⟨zPx_blind, fun U hU hW => zPx_at hE hX hw U hU hW⟩ rfl (by simp) hl.1.1 rfl (lv_room (by decide)) hd ⟨hR3, hR4⟩) hw.2.2.2 (fun q _ h => h) (fun q h => h) (fun r u t H1 locs1 ht hvm hpost hB hz hkk hS' => ?_)
  exact hq (pc + 3) L [.int r] u H1 locs1 ls ⟨rfl, rfl, r, rfl, hpost⟩ hl ⟨hw.1, by rw [← ht]; exact hB.1, hB.2, hS'⟩
end
section
variable {l : Launch} {dC : Nat → ClassId} {dI : Nat → Nat → Nat} {dA : Nat → ClassId} {ad : Nat → Nat} {B0 Lx : Nat} {xs : Nat → Int32} {k K : Nat} {L : Nat → Value} {M : zM}
theorem ww_ini : Jvm.Cond.initialized "KeptItemsLaw" ∈ zT := zin 0 (by decide +kernel) (by decide +kernel)
theorem wd_edit : mW_edit.1.cls ≠ "java/lang/invoke/MethodHandle" ∧ mW_edit.1.cls ≠ "java/lang/invoke/VarHandle" ∧ (parseMethodDescriptor mW_edit.1.desc).map (fun d => d.parameters.length) = some 4 := by decide +kernel
theorem ww_l_edit : Jvm.Cond.methodLink "KeptItemsLaw" 44 mW_edit.1 ∈ zT := zin 197 (by decide +kernel) (by decide +kernel)
theorem ww_s_edit : Jvm.Cond.static mW_edit.1 ∈ zT := zin 198 (by decide +kernel) (by decide +kernel)
theorem ww_c_edit : Jvm.Cond.codeWith mW_edit.1 mW_edit.2.1 mW_edit.2.2.1 mW_edit.2.2.2 [(0, 10, 13, 13), (0, 10, 17, 15)] ∈ zT := zin 199 (by decide +kernel) (by decide +kernel)
set_option maxRecDepth 100000 in
theorem ls_edit (hl : l.stackTraces = false) (hL : lwL L k) (hgo : k + 3 ≤ Lx) (hLx : Lx ≤ 2000) (hK : K ≤ 1000) (h : zInv M K) : WL l dC dI dA ad B0 Lx xs 1154 1 6 156 L [] M (lwQ k (K + 1)) := by
  refine wl_seq (kc := 0) (ks := 0) (kc' := 1) (ks' := 6) (wl_ev (lt_edit hL hgo hLx)) ?_
  intro pc' L' st' M' hQ
  obtain ⟨rfl, rfl, rfl, rfl⟩ := hQ
  rcases iv_edit (D0 := 0) (d' := 1147) (x := xs (k + 1)) (y := xs (k + 2)) hK h with hT | hT | hT
  · refine wl_seq (kc := 1) (ks := 6) (kc' := 0) (ks' := 0) (wl_call (d := 1153) (As := [.ref 0, .int (xs (k + 1)), .int (xs (k + 2)), .ref 53]) dW_law_170 ww_l_edit ww_ini ww_c_edit ww_s_edit wd_edit (by decide) (mw_n (by decide) rfl (zall rfl) (Nat.le_of_ble_eq_true rfl) (wn_edit (d := 1152) (d' := 1153) hT))) ?_
    intro pc' L' st' M' hQ
    obtain ⟨rfl, rfl, r, rfl, hr1, v, M1, rfl, hC⟩ := hQ
    cases hr1
    exact wl_ev (lb_edit_n (d := 1153) hL hgo hLx hC)
  · obtain ⟨h1, h2⟩ := hT
    refine wl_seq (kc := 1) (ks := 6) (kc' := 0) (ks' := 0) (wl_call (d := 1153) (As := [.ref 0, .int (xs (k + 1)), .int (xs (k + 2)), .ref 53]) dW_law_170 ww_l_edit ww_ini ww_c_edit ww_s_edit wd_edit (by decide) (mwx_edit1 (d := 1152) hl (by decide) h1)) ?_
    intro pc' L' st' M' hQ
    obtain ⟨rfl, rfl, r, rfl, rfl, rfl⟩ := hQ
    exact wl_ev (lb_edit_x (d := 1153) (Or.inl rfl) hL hgo hLx h2)
  · obtain ⟨h1, h2⟩ := hT
    refine wl_seq (kc := 1) (ks := 6) (kc' := 0) (ks' := 0) (wl_call (d := 1153) (As := [.ref 0, .int (xs (k + 1)), .int (xs (k + 2)), .ref 53]) dW_law_170 ww_l_edit ww_ini ww_c_edit ww_s_edit wd_edit (by decide) (mwx_edit2 (d := 1152) hl (by decide) h1)) ?_
    intro pc' L' st' M' hQ
    obtain ⟨rfl, rfl, r, rfl, rfl, rfl⟩ := hQ
    exact wl_ev (lb_edit_x (d := 1153) (Or.inr rfl) hL hgo hLx h2)
theorem wd_token : mW_token.1.cls ≠ "java/lang/invoke/MethodHandle" ∧ mW_token.1.cls ≠ "java/lang/invoke/VarHandle" ∧ (parseMethodDescriptor mW_token.1.desc).map (fun d => d.parameters.length) = some 3 := by decide +kernel
theorem ww_l_token : Jvm.Cond.methodLink "KeptItemsLaw" 66 mW_token.1 ∈ zT := zin 495 (by decide +kernel) (by decide +kernel)
theorem ww_s_token : Jvm.Cond.static mW_token.1 ∈ zT := zin 496 (by decide +kernel) (by decide +kernel)
theorem ww_c_token : Jvm.Cond.codeWith mW_token.1 mW_token.2.1 mW_token.2.2.1 mW_token.2.2.2 [(0, 9, 12, 13)] ∈ zT := zin 497 (by decide +kernel) (by decide +kernel)
set_option maxRecDepth 100000 in
theorem ls_token (hl : l.stackTraces = false) (hL : lwL L k) (hgo : k + 3 ≤ Lx) (hLx : Lx ≤ 2000) (h : zInv M K) : WL l dC dI dA ad B0 Lx xs 1154 1 6 275 L [] M (lwQ k K) := by
  refine wl_seq (kc := 0) (ks := 0) (kc' := 1) (ks' := 6) (wl_ev (lt_token hL hgo hLx)) ?_
  intro pc' L' st' M' hQ
  obtain ⟨rfl, rfl, rfl, rfl⟩ := hQ
  rcases iv_token (d := 1152) (d' := 1153) (x := xs (k + 1)) h with hT | hT
  · refine wl_seq (kc := 1) (ks := 6) (kc' := 0) (ks' := 0) (wl_call (d := 1153) (As := [.ref 0, .int (xs (k + 1)), .ref 53]) dW_law_283 ww_l_token ww_ini ww_c_token ww_s_token wd_token (by decide) (mw_n (by decide) rfl (zall rfl) (Nat.le_of_ble_eq_true rfl) (wn_token (d := 1152) (d' := 1153) hT))) ?_
    intro pc' L' st' M' hQ
    obtain ⟨rfl, rfl, r, rfl, hr1, v, M1, rfl, hC⟩ := hQ
    cases hr1
    exact wl_ev (lb_token_n (d := 1153) hL hgo hLx hC)
  · obtain ⟨h1, h2⟩ := hT
    refine wl_seq (kc := 1) (ks := 6) (kc' := 0) (ks' := 0) (wl_call (d := 1153) (As := [.ref 0, .int (xs (k + 1)), .ref 53]) dW_law_283 ww_l_token ww_ini ww_c_token ww_s_token wd_token (by decide) (mwx_token (d := 1152) hl (by decide) h1)) ?_
    intro pc' L' st' M' hQ
    obtain ⟨rfl, rfl, r, rfl, rfl, rfl⟩ := hQ
    exact wl_ev (lb_token_x (d := 1153) (Or.inl rfl) hL hgo hLx h2)
theorem wd_begin : mW_begin.1.cls ≠ "java/lang/invoke/MethodHandle" ∧ mW_begin.1.cls ≠ "java/lang/invoke/VarHandle" ∧ (parseMethodDescriptor mW_begin.1.desc).map (fun d => d.parameters.length) = some 3 := by decide +kernel
theorem ww_l_begin : Jvm.Cond.methodLink "KeptItemsLaw" 90 mW_begin.1 ∈ zT := zin 502 (by decide +kernel) (by decide +kernel)
theorem ww_s_begin : Jvm.Cond.static mW_begin.1 ∈ zT := zin 503 (by decide +kernel) (by decide +kernel)
theorem ww_c_begin : Jvm.Cond.codeWith mW_begin.1 mW_begin.2.1 mW_begin.2.2.1 mW_begin.2.2.2 [(0, 9, 12, 13)] ∈ zT := zin 504 (by decide +kernel) (by decide +kernel)
set_option maxRecDepth 100000 in
theorem ls_begin (hl : l.stackTraces = false) (hL : lwL L k) (hgo : k + 3 ≤ Lx) (hLx : Lx ≤ 2000) (h : zInv M K) : WL l dC dI dA ad B0 Lx xs 1154 1 6 420 L [] M (lwQ k K) := by
  refine wl_seq (kc := 0) (ks := 0) (kc' := 1) (ks' := 6) (wl_ev (lt_begin hL hgo hLx)) ?_
  intro pc' L' st' M' hQ
  obtain ⟨rfl, rfl, rfl, rfl⟩ := hQ
  rcases iv_begin (d := 1151) (d' := 1152) (x := xs (k + 1)) h with hT | hT
  · refine wl_seq (kc := 1) (ks := 6) (kc' := 0) (ks' := 0) (wl_call (d := 1153) (As := [.ref 0, .int (xs (k + 1)), .ref 53]) dW_law_428 ww_l_begin ww_ini ww_c_begin ww_s_begin wd_begin (by decide) (mw_n (by decide) rfl (zall rfl) (Nat.le_of_ble_eq_true rfl) (wn_begin (d := 1152) (d' := 1153) hT))) ?_
    intro pc' L' st' M' hQ
    obtain ⟨rfl, rfl, r, rfl, hr1, v, M1, rfl, hC⟩ := hQ
    cases hr1
    exact wl_ev (lb_begin_n (d := 1153) hL hgo hLx hC)
  · obtain ⟨h1, h2⟩ := hT
    refine wl_seq (kc := 1) (ks := 6) (kc' := 0) (ks' := 0) (wl_call (d := 1153) (As := [.ref 0, .int (xs (k + 1)), .ref 53]) dW_law_428 ww_l_begin ww_ini ww_c_begin ww_s_begin wd_begin (by decide) (mwx_begin (d := 1152) hl (by decide) h1)) ?_
    intro pc' L' st' M' hQ
    obtain ⟨rfl, rfl, r, rfl, rfl, rfl⟩ := hQ
    exact wl_ev (lb_begin_x (d := 1153) (Or.inl rfl) hL hgo hLx h2)
theorem wd_end : mW_end.1.cls ≠ "java/lang/invoke/MethodHandle" ∧ mW_end.1.cls ≠ "java/lang/invoke/VarHandle" ∧ (parseMethodDescriptor mW_end.1.desc).map (fun d => d.parameters.length) = some 3 := by decide +kernel
theorem ww_l_end : Jvm.Cond.methodLink "KeptItemsLaw" 93 mW_end.1 ∈ zT := zin 510 (by decide +kernel) (by decide +kernel)
theorem ww_s_end : Jvm.Cond.static mW_end.1 ∈ zT := zin 511 (by decide +kernel) (by decide +kernel)
theorem ww_c_end : Jvm.Cond.codeWith mW_end.1 mW_end.2.1 mW_end.2.2.1 mW_end.2.2.2 [(0, 9, 12, 13)] ∈ zT := zin 512 (by decide +kernel) (by decide +kernel)
set_option maxRecDepth 100000 in
theorem ls_end (hl : l.stackTraces = false) (hL : lwL L k) (hgo : k + 3 ≤ Lx) (hLx : Lx ≤ 2000) (h : zInv M K) : WL l dC dI dA ad B0 Lx xs 1154 1 6 476 L [] M (lwQ k K) := by
  refine wl_seq (kc := 0) (ks := 0) (kc' := 1) (ks' := 6) (wl_ev (lt_end hL hgo hLx)) ?_
  intro pc' L' st' M' hQ
  obtain ⟨rfl, rfl, rfl, rfl⟩ := hQ
  rcases iv_end (d := 1150) (d' := 1152) (x := xs (k + 1)) h with hT | hT
  · refine wl_seq (kc := 1) (ks := 6) (kc' := 0) (ks' := 0) (wl_call (d := 1153) (As := [.ref 0, .int (xs (k + 1)), .ref 53]) dW_law_484 ww_l_end ww_ini ww_c_end ww_s_end wd_end (by decide) (mw_n (by decide) rfl (zall rfl) (Nat.le_of_ble_eq_true rfl) (wn_end (d := 1152) (d' := 1153) hT))) ?_
    intro pc' L' st' M' hQ
    obtain ⟨rfl, rfl, r, rfl, hr1, v, M1, rfl, hC⟩ := hQ
    cases hr1
    exact wl_ev (lb_end_n (d := 1153) hL hgo hLx hC)
  · obtain ⟨h1, h2⟩ := hT
    refine wl_seq (kc := 1) (ks := 6) (kc' := 0) (ks' := 0) (wl_call (d := 1153) (As := [.ref 0, .int (xs (k + 1)), .ref 53]) dW_law_484 ww_l_end ww_ini ww_c_end ww_s_end wd_end (by decide) (mwx_end (d := 1152) hl (by decide) h1)) ?_
    intro pc' L' st' M' hQ
    obtain ⟨rfl, rfl, r, rfl, rfl, rfl⟩ := hQ
    exact wl_ev (lb_end_x (d := 1153) (Or.inl rfl) hL hgo hLx h2)
theorem wd_value : mW_value.1.cls ≠ "java/lang/invoke/MethodHandle" ∧ mW_value.1.cls ≠ "java/lang/invoke/VarHandle" ∧ (parseMethodDescriptor mW_value.1.desc).map (fun d => d.parameters.length) = some 3 := by decide +kernel
theorem ww_l_value : Jvm.Cond.methodLink "KeptItemsLaw" 100 mW_value.1 ∈ zT := zin 518 (by decide +kernel) (by decide +kernel)
theorem ww_s_value : Jvm.Cond.static mW_value.1 ∈ zT := zin 519 (by decide +kernel) (by decide +kernel)
theorem ww_c_value : Jvm.Cond.codeWith mW_value.1 mW_value.2.1 mW_value.2.2.1 mW_value.2.2.2 [(0, 9, 12, 13)] ∈ zT := zin 520 (by decide +kernel) (by decide +kernel)
set_option maxRecDepth 100000 in
theorem ls_value (hl : l.stackTraces = false) (hL : lwL L k) (hgo : k + 3 ≤ Lx) (hLx : Lx ≤ 2000) (h : zInv M K) : WL l dC dI dA ad B0 Lx xs 1154 1 6 557 L [] M (lwQ k K) := by
  refine wl_seq (kc := 0) (ks := 0) (kc' := 1) (ks' := 6) (wl_ev (lt_value hL hgo hLx)) ?_
  intro pc' L' st' M' hQ
  obtain ⟨rfl, rfl, rfl, rfl⟩ := hQ
  rcases iv_value (d := 1151) (d' := 1152) (x := xs (k + 1)) h with hT | hT
  · refine wl_seq (kc := 1) (ks := 6) (kc' := 0) (ks' := 0) (wl_call (d := 1153) (As := [.ref 0, .int (xs (k + 1)), .ref 53]) dW_law_565 ww_l_value ww_ini ww_c_value ww_s_value wd_value (by decide) (mw_n (by decide) rfl (zall rfl) (Nat.le_of_ble_eq_true rfl) (wn_value (d := 1152) (d' := 1153) hT))) ?_
    intro pc' L' st' M' hQ
    obtain ⟨rfl, rfl, r, rfl, hr1, v, M1, rfl, hC⟩ := hQ
    cases hr1
    exact wl_ev (lb_value_n (d := 1153) hL hgo hLx hC)
  · obtain ⟨h1, h2⟩ := hT
    refine wl_seq (kc := 1) (ks := 6) (kc' := 0) (ks' := 0) (wl_call (d := 1153) (As := [.ref 0, .int (xs (k + 1)), .ref 53]) dW_law_565 ww_l_value ww_ini ww_c_value ww_s_value wd_value (by decide) (mwx_value (d := 1152) hl (by decide) h1)) ?_
    intro pc' L' st' M' hQ
    obtain ⟨rfl, rfl, r, rfl, rfl, rfl⟩ := hQ
    exact wl_ev (lb_value_x (d := 1153) (Or.inl rfl) hL hgo hLx h2)
theorem l_sw2 (hL : lwL L k) (hk : k ≤ 2000) (hLx : Lx ≤ 2000) (hgo : k + 3 ≤ Lx) : Ev Lx xs 1154 mW_law 23 L [] M (fun pc' L' st' M' => L' = L ∧ st' = [] ∧ M' = M ∧ (pc' = 116 ∨ pc' = 143 ∨ pc' = 156 ∨ pc' = 224 ∨ pc' = 237 ∨ pc' = 262 ∨ pc' = 275 ∨ pc' = 331 ∨ pc' = 344 ∨ pc' = 357 ∨ pc' = 370 ∨ pc' = 395 ∨ pc' = 420 ∨ pc' = 476 ∨ pc' = 532 ∨ pc' = 557)) := by
  refine l_sw hL hk hLx hgo (fun c hc => ?_)
  rcases (show c = 0 ∨ c = 1 ∨ c = 2 ∨ c = 3 ∨ c = 4 ∨ c = 5 ∨ c = 6 ∨ c = 7 ∨ c = 8 ∨ c = 9 ∨ c = 10 ∨ c = 11 ∨ c = 12 ∨ c = 13 ∨ c = 14 ∨ c = 15 by omega) with rfl | rfl | rfl | rfl | rfl | rfl | rfl | rfl | rfl | rfl | rfl | rfl | rfl | rfl | rfl | rfl
  · exact ⟨116, by decide, ev_done ⟨rfl, rfl, rfl, Or.inl rfl⟩⟩
  · exact ⟨143, by decide, ev_done ⟨rfl, rfl, rfl, Or.inr (Or.inl rfl)⟩⟩
  · exact ⟨156, by decide, ev_done ⟨rfl, rfl, rfl, Or.inr (Or.inr (Or.inl rfl))⟩⟩
  · exact ⟨224, by decide, ev_done ⟨rfl, rfl, rfl, Or.inr (Or.inr (Or.inr (Or.inl rfl)))⟩⟩
  · exact ⟨237, by decide, ev_done ⟨rfl, rfl, rfl, Or.inr (Or.inr (Or.inr (Or.inr (Or.inl rfl))))⟩⟩
  · exact ⟨262, by decide, ev_done ⟨rfl, rfl, rfl, Or.inr (Or.inr (Or.inr (Or.inr (Or.inr (Or.inl rfl)))))⟩⟩
  · exact ⟨275, by decide, ev_done ⟨rfl, rfl, rfl, Or.inr (Or.inr (Or.inr (Or.inr (Or.inr (Or.inr (Or.inl rfl))))))⟩⟩
  · exact ⟨331, by decide, ev_done ⟨rfl, rfl, rfl, Or.inr (Or.inr (Or.inr (Or.inr (Or.inr (Or.inr (Or.inr (Or.inl rfl)))))))⟩⟩
  · exact ⟨344, by decide, ev_done ⟨rfl, rfl, rfl, Or.inr (Or.inr (Or.inr (Or.inr (Or.inr (Or.inr (Or.inr (Or.inr (Or.inl rfl))))))))⟩⟩
  · exact ⟨357, by decide, ev_done ⟨rfl, rfl, rfl, Or.inr (Or.inr (Or.inr (Or.inr (Or.inr (Or.inr (Or.inr (Or.inr (Or.inr (Or.inl rfl)))))))))⟩⟩
  · exact ⟨370, by decide, ev_done ⟨rfl, rfl, rfl, Or.inr (Or.inr (Or.inr (Or.inr (Or.inr (Or.inr (Or.inr (Or.inr (Or.inr (Or.inr (Or.inl rfl))))))))))⟩⟩
  · exact ⟨395, by decide, ev_done ⟨rfl, rfl, rfl, Or.inr (Or.inr (Or.inr (Or.inr (Or.inr (Or.inr (Or.inr (Or.inr (Or.inr (Or.inr (Or.inr (Or.inl rfl)))))))))))⟩⟩
  · exact ⟨420, by decide, ev_done ⟨rfl, rfl, rfl, Or.inr (Or.inr (Or.inr (Or.inr (Or.inr (Or.inr (Or.inr (Or.inr (Or.inr (Or.inr (Or.inr (Or.inr (Or.inl rfl))))))))))))⟩⟩
  · exact ⟨476, by decide, ev_done ⟨rfl, rfl, rfl, Or.inr (Or.inr (Or.inr (Or.inr (Or.inr (Or.inr (Or.inr (Or.inr (Or.inr (Or.inr (Or.inr (Or.inr (Or.inr (Or.inl rfl)))))))))))))⟩⟩
  · exact ⟨532, by decide, ev_done ⟨rfl, rfl, rfl, Or.inr (Or.inr (Or.inr (Or.inr (Or.inr (Or.inr (Or.inr (Or.inr (Or.inr (Or.inr (Or.inr (Or.inr (Or.inr (Or.inr (Or.inl rfl))))))))))))))⟩⟩
  · exact ⟨557, by decide, ev_done ⟨rfl, rfl, rfl, Or.inr (Or.inr (Or.inr (Or.inr (Or.inr (Or.inr (Or.inr (Or.inr (Or.inr (Or.inr (Or.inr (Or.inr (Or.inr (Or.inr (Or.inr (rfl)))))))))))))))⟩⟩
theorem l_step (hl : l.stackTraces = false) (hL : lwL L k) (hgo : k + 3 ≤ Lx) (hLx : Lx ≤ 2000) (hK : K ≤ 1000) (h : zInv M K) : WL l dC dI dA ad B0 Lx xs 1154 1 6 23 L [] M (lwQ k (K + 1)) := by
  have h1 := h.up (Nat.le_succ K)
  refine wl_seq (kc := 0) (ks := 0) (kc' := 1) (ks' := 6) (wl_ev (l_sw2 hL (by omega) hLx hgo)) ?_
  intro pc' L' st' M' hQ
  obtain ⟨rfl, rfl, rfl, hpc⟩ := hQ
  rcases hpc with rfl | rfl | rfl | rfl | rfl | rfl | rfl | rfl | rfl | rfl | rfl | rfl | rfl | rfl | rfl | rfl
  · exact wl_up (wl_ev (lp_type (d := 1153) hL hgo hLx (fun c hc => iv_type hc h1))) (by omega) (by omega)
  · exact wl_up (wl_ev (lp_wipe (d := 1153) hL (iv_wipe h1))) (by omega) (by omega)
  · exact ls_edit hl hL hgo hLx hK h
  · exact wl_up (wl_ev (lp_length (d := 1153) hL (iv_length h1))) (by omega) (by omega)
  · exact wl_up (wl_ev (lp_at (d := 1153) hL hgo hLx (iv_at h1))) (by omega) (by omega)
  · exact wl_up (wl_ev (lp_tokens (d := 1153) hL (iv_tokens h1))) (by omega) (by omega)
  · exact ls_token hl hL hgo hLx h1
  · exact wl_up (wl_ev (lp_fault (d := 1153) hL (iv_fault (d := 1151) h1))) (by omega) (by omega)
  · exact wl_up (wl_ev (lp_items (d := 1153) hL (iv_items h1))) (by omega) (by omega)
  · exact wl_up (wl_ev (lp_kept (d := 1153) hL (iv_kept h1))) (by omega) (by omega)
  · exact wl_up (wl_ev (lp_number (d := 1153) hL hgo hLx (iv_number (d := 1152) h1))) (by omega) (by omega)
  · exact wl_up (wl_ev (lp_which (d := 1153) hL hgo hLx (iv_which (d := 1152) h1))) (by omega) (by omega)
  · exact ls_begin hl hL hgo hLx h1
  · exact ls_end hl hL hgo hLx h1
  · exact wl_up (wl_ev (lp_level (d := 1153) hL hgo hLx (iv_level (d := 1152) h1))) (by omega) (by omega)
  · exact ls_value hl hL hgo hLx h1
theorem l_loop (hl : l.stackTraces = false) (hLx : Lx ≤ 1536) : ∀ (f k K : Nat) (L : Nat → Value) (M : zM), lwL L k → k ≤ 1800 → Lx < k + 3 * (f + 1) → K + f ≤ 1000 → zInv M K → WL l dC dI dA ad B0 Lx xs 1154 f (6 * f) 23 L [] M (fun pc' _ st' _ => pc' = 620 ∧ st' = [.int 1])
  | 0, k, K, L, M, hL, hk, hf, hK, h => wl_to (wl_ev (l_end hL (by omega) (by omega) (by omega))) (fun _ _ _ _ hh => ⟨hh.1, hh.2.1⟩)
  | f + 1, k, K, L, M, hL, hk, hf, hK, h => by
    by_cases hend : Lx < k + 3
    · exact wl_up (wl_to (wl_ev (l_end hL (by omega) (by omega) hend)) (fun _ _ _ _ hh => ⟨hh.1, hh.2.1⟩)) (by omega) (by omega)
    · refine wl_up (wl_seq (l_step hl hL (by omega) (by omega) (by omega) h) ?_) (show 1 + f ≤ f + 1 by omega) (show 6 + 6 * f ≤ 6 * (f + 1) by omega)
      intro pc' L' st' M' hQ
      obtain ⟨rfl, rfl, hL', hI⟩ := hQ
      exact l_loop hl hLx f (k + 3) (K + 1) L' M' hL' (by omega) (by omega) (by omega) hI
end
