/- the law's own methods, where the class throws (rows laid by program) -/
theorem wk_iob : Jvm.Cond.classLink "KeptItems" 40 zIob ∈ zT := zin 206 (by decide +kernel) (by decide +kernel)
theorem wk_ise : Jvm.Cond.classLink "KeptItems" 43 zIse ∈ zT := zin 268 (by decide +kernel) (by decide +kernel)
theorem wi_iob : Jvm.Cond.initialized zIob ∈ zT := zin 9 (by decide +kernel) (by decide +kernel)
theorem wi_ise : Jvm.Cond.initialized zIse ∈ zT := zin 10 (by decide +kernel) (by decide +kernel)
theorem ww_iob : Jvm.Cond.classLink "KeptItemsLaw" 13 zIob ∈ zT := zin 200 (by decide +kernel) (by decide +kernel)
theorem ww_ise : Jvm.Cond.classLink "KeptItemsLaw" 15 zIse ∈ zT := zin 201 (by decide +kernel) (by decide +kernel)
section
variable {l : Launch} {dC : Nat → ClassId} {dI : Nat → Nat → Nat} {dA : Nat → ClassId} {ad : Nat → Nat} {B0 Lx : Nat} {xs : Nat → Int32} {d : Nat} {M : zM} {x y : Int32}
set_option maxRecDepth 100000 in
set_option maxHeartbeats 4000000 in
theorem mwx_token (hl : l.stackTraces = false) (hd8 : 8 ≤ d) (h : Ev Lx xs d mK_token 0 (zarg [.ref 0, .int x]) [] M (fun pc' _ st' M' => pc' = 18 ∧ st' = [] ∧ M' = M)) : Met l mW_token.1 (zwsW mW_token [(0, 9, 12, 13)]) (zrx (d + 1)) (zPx dC dI dA ad B0 Lx xs [.ref 0, .int x, .ref 53] M) (va_Qi (fun (r : Int32) (u : zM) => r = nI 1 ∧ u = M) (zB dC dI dA ad B0) (zA B0)) 1 6 (zA B0) := by
  refine va_MetW (cc := mW_token.2.1) (maxL := mW_token.2.2.1) (ret := mW_token.2.2.2) (hh := [(0, 9, 12, 13)]) (by decide) rfl ?_
  intro p e s m args below meth c s₁ B hml hv
  obtain ⟨rfl, ⟨hE0, hK, hP, hD⟩, hX⟩ := hv
  have hts0 := atoms_spec (ws := zwsW mW_token [(0, 9, 12, 13)]) B.pre
  have hts : ∀ w ∈ zT, w.before _ s = true := fun w hw => hts0 w (List.mem_cons_of_mem _ hw)
  have hlocks := B.notSynchronized
  have hown : s.vm.findClass "KeptItemsLaw" = some m.cls := findClass_of_methodNamed B.named
  have htab : c.exceptionTable.toList = tableOf [(0, 9, 12, 13)] := vx_table (x := mW_token.1) B (hts0 _ List.mem_cons_self)
  rw [lg_entry_eq]
  refine zsound (wx_token (Lx := Lx) (xs := xs) (d := d + 1)) p e s m _ below meth c _ s.heap [] 0 0 _ _ ⟨B.exec, B.bytes, hml, hown, hts, ⟨Nat.le_refl _, Nat.le_refl _, Nat.zero_le _, Nat.zero_le _⟩, hE0⟩ (zl_entry [.ref 0, .int x, .ref 53] (zall rfl) (Nat.le_of_ble_eq_true rfl)) ⟨hK, hP, hD, va_S.rf⟩ ?_
  intro pc' L' st' M' H' locs' ls' hQ hl' hw'
  obtain ⟨rfl, rfl, rfl⟩ := hQ
  refine vx_calli (vx_runV (C := "KeptItems") (As := [.int x]) (rest := [.int (nI 0), .ref (ad 53)]) (b := ad 0) ⟨B.exec, B.bytes, hml, hown, hts⟩ (mx (As := [.ref 0, .int x]) (by decide) (zall rfl) (Nat.le_of_ble_eq_true rfl) hd8 hl h (by decide) wk_iob wi_iob zat_iob (Or.inl rfl) dK_token_18 dK_token_21 dK_token_22 dK_token_25) (cwV (rm := zrx d) 1 hts (zgood_V lW_17) rfl rfl rfl ⟨rfl, lW_17.1.2.2.1⟩ ⟨Nat.le_refl _, by show 8 + (2 + 11) + 64 * d ≤ 64 * (d + 1); omega⟩) ⟨zPx_blind, zrec_cell rec_K hE0 hw', fun U hU hW => zPx_at (As := [.ref 0, .int x]) hE0 hX hw' U hU hW⟩ rfl rfl hl'.1.1 rfl (lv_room (Nat.le_of_ble_eq_true rfl)) dW_token_4 ⟨Nat.le_refl _, Nat.le_refl _⟩) hw'.2.2.2 (fun q _ h => h) (fun q h => h) (fun q _ h => h) (fun E' ce q9 u t H1 locs1 ht hvm hpx hBX hz hkk hS' hce hcv hcl => ?_) (fun r u t H1 locs1 ht hvm hpost _ _ _ _ => hpost.elim)
  obtain rfl := hpx
  obtain ⟨rfl, hB1, hB2⟩ := hBX
  refine vx_catch (name := zIob) hown [] ⟨0, 9, 12, 13⟩ [] htab (fun z hz => by cases hz) rfl (by decide) (hts _ ww_iob) (va_Nw.use rfl hX.2.2.1) hce hcv hcl ?_
  refine lv_astore_n B.exec B.bytes dW_token_12 rfl hl'.1 (by decide) rfl (fun ls2 hl2 => ?_)
  refine lv_iconst (v := nI 1) B.exec B.bytes dW_token_13 (by decide) ?_
  exact W.zret B.exec B.bytes B.returns rfl (fun t2 ht2 hW => ⟨⟨nI 1, u, rfl, ⟨rfl, rfl⟩, by rw [ht2, ← ht]; exact hB1, hB2⟩, hS'.F ht2⟩) hS'.2.2 dW_token_14
set_option maxRecDepth 100000 in
set_option maxHeartbeats 4000000 in
theorem mwx_begin (hl : l.stackTraces = false) (hd8 : 8 ≤ d) (h : Ev Lx xs d mK_begin 0 (zarg [.ref 0, .int x]) [] M (fun pc' _ st' M' => pc' = 14 ∧ st' = [] ∧ M' = M)) : Met l mW_begin.1 (zwsW mW_begin [(0, 9, 12, 13)]) (zrx (d + 1)) (zPx dC dI dA ad B0 Lx xs [.ref 0, .int x, .ref 53] M) (va_Qi (fun (r : Int32) (u : zM) => r = nI 1 ∧ u = M) (zB dC dI dA ad B0) (zA B0)) 1 6 (zA B0) := by
  refine va_MetW (cc := mW_begin.2.1) (maxL := mW_begin.2.2.1) (ret := mW_begin.2.2.2) (hh := [(0, 9, 12, 13)]) (by decide) rfl ?_
  intro p e s m args below meth c s₁ B hml hv
  obtain ⟨rfl, ⟨hE0, hK, hP, hD⟩, hX⟩ := hv
  have hts0 := atoms_spec (ws := zwsW mW_begin [(0, 9, 12, 13)]) B.pre
  have hts : ∀ w ∈ zT, w.before _ s = true := fun w hw => hts0 w (List.mem_cons_of_mem _ hw)
  have hlocks := B.notSynchronized
  have hown : s.vm.findClass "KeptItemsLaw" = some m.cls := findClass_of_methodNamed B.named
  have htab : c.exceptionTable.toList = tableOf [(0, 9, 12, 13)] := vx_table (x := mW_begin.1) B (hts0 _ List.mem_cons_self)
  rw [lg_entry_eq]
  refine zsound (wx_begin (Lx := Lx) (xs := xs) (d := d + 1)) p e s m _ below meth c _ s.heap [] 0 0 _ _ ⟨B.exec, B.bytes, hml, hown, hts, ⟨Nat.le_refl _, Nat.le_refl _, Nat.zero_le _, Nat.zero_le _⟩, hE0⟩ (zl_entry [.ref 0, .int x, .ref 53] (zall rfl) (Nat.le_of_ble_eq_true rfl)) ⟨hK, hP, hD, va_S.rf⟩ ?_
  intro pc' L' st' M' H' locs' ls' hQ hl' hw'
  obtain ⟨rfl, rfl, rfl⟩ := hQ
  refine vx_calli (vx_runV (C := "KeptItems") (As := [.int x]) (rest := [.int (nI 0), .ref (ad 53)]) (b := ad 0) ⟨B.exec, B.bytes, hml, hown, hts⟩ (mx (As := [.ref 0, .int x]) (by decide) (zall rfl) (Nat.le_of_ble_eq_true rfl) hd8 hl h (by decide) wk_iob wi_iob zat_iob (Or.inl rfl) dK_begin_14 dK_begin_17 dK_begin_18 dK_begin_21) (cwV (rm := zrx d) 1 hts (zgood_V lW_21) rfl rfl rfl ⟨rfl, lW_21.1.2.2.1⟩ ⟨Nat.le_refl _, by show 8 + (2 + 11) + 64 * d ≤ 64 * (d + 1); omega⟩) ⟨zPx_blind, zrec_cell rec_K hE0 hw', fun U hU hW => zPx_at (As := [.ref 0, .int x]) hE0 hX hw' U hU hW⟩ rfl rfl hl'.1.1 rfl (lv_room (Nat.le_of_ble_eq_true rfl)) dW_begin_4 ⟨Nat.le_refl _, Nat.le_refl _⟩) hw'.2.2.2 (fun q _ h => h) (fun q h => h) (fun q _ h => h) (fun E' ce q9 u t H1 locs1 ht hvm hpx hBX hz hkk hS' hce hcv hcl => ?_) (fun r u t H1 locs1 ht hvm hpost _ _ _ _ => hpost.elim)
  obtain rfl := hpx
  obtain ⟨rfl, hB1, hB2⟩ := hBX
  refine vx_catch (name := zIob) hown [] ⟨0, 9, 12, 13⟩ [] htab (fun z hz => by cases hz) rfl (by decide) (hts _ ww_iob) (va_Nw.use rfl hX.2.2.1) hce hcv hcl ?_
  refine lv_astore_n B.exec B.bytes dW_begin_12 rfl hl'.1 (by decide) rfl (fun ls2 hl2 => ?_)
  refine lv_iconst (v := nI 1) B.exec B.bytes dW_begin_13 (by decide) ?_
  exact W.zret B.exec B.bytes B.returns rfl (fun t2 ht2 hW => ⟨⟨nI 1, u, rfl, ⟨rfl, rfl⟩, by rw [ht2, ← ht]; exact hB1, hB2⟩, hS'.F ht2⟩) hS'.2.2 dW_begin_14
set_option maxRecDepth 100000 in
set_option maxHeartbeats 4000000 in
theorem mwx_end (hl : l.stackTraces = false) (hd8 : 8 ≤ d) (h : Ev Lx xs d mK_end 0 (zarg [.ref 0, .int x]) [] M (fun pc' _ st' M' => pc' = 14 ∧ st' = [] ∧ M' = M)) : Met l mW_end.1 (zwsW mW_end [(0, 9, 12, 13)]) (zrx (d + 1)) (zPx dC dI dA ad B0 Lx xs [.ref 0, .int x, .ref 53] M) (va_Qi (fun (r : Int32) (u : zM) => r = nI 1 ∧ u = M) (zB dC dI dA ad B0) (zA B0)) 1 6 (zA B0) := by
  refine va_MetW (cc := mW_end.2.1) (maxL := mW_end.2.2.1) (ret := mW_end.2.2.2) (hh := [(0, 9, 12, 13)]) (by decide) rfl ?_
  intro p e s m args below meth c s₁ B hml hv
  obtain ⟨rfl, ⟨hE0, hK, hP, hD⟩, hX⟩ := hv
  have hts0 := atoms_spec (ws := zwsW mW_end [(0, 9, 12, 13)]) B.pre
  have hts : ∀ w ∈ zT, w.before _ s = true := fun w hw => hts0 w (List.mem_cons_of_mem _ hw)
  have hlocks := B.notSynchronized
  have hown : s.vm.findClass "KeptItemsLaw" = some m.cls := findClass_of_methodNamed B.named
  have htab : c.exceptionTable.toList = tableOf [(0, 9, 12, 13)] := vx_table (x := mW_end.1) B (hts0 _ List.mem_cons_self)
  rw [lg_entry_eq]
  refine zsound (wx_end (Lx := Lx) (xs := xs) (d := d + 1)) p e s m _ below meth c _ s.heap [] 0 0 _ _ ⟨B.exec, B.bytes, hml, hown, hts, ⟨Nat.le_refl _, Nat.le_refl _, Nat.zero_le _, Nat.zero_le _⟩, hE0⟩ (zl_entry [.ref 0, .int x, .ref 53] (zall rfl) (Nat.le_of_ble_eq_true rfl)) ⟨hK, hP, hD, va_S.rf⟩ ?_
  intro pc' L' st' M' H' locs' ls' hQ hl' hw'
  obtain ⟨rfl, rfl, rfl⟩ := hQ
  refine vx_calli (vx_runV (C := "KeptItems") (As := [.int x]) (rest := [.int (nI 0), .ref (ad 53)]) (b := ad 0) ⟨B.exec, B.bytes, hml, hown, hts⟩ (mx (As := [.ref 0, .int x]) (by decide) (zall rfl) (Nat.le_of_ble_eq_true rfl) hd8 hl h (by decide) wk_iob wi_iob zat_iob (Or.inl rfl) dK_end_14 dK_end_17 dK_end_18 dK_end_21) (cwV (rm := zrx d) 1 hts (zgood_V lW_24) rfl rfl rfl ⟨rfl, lW_24.1.2.2.1⟩ ⟨Nat.le_refl _, by show 8 + (2 + 11) + 64 * d ≤ 64 * (d + 1); omega⟩) ⟨zPx_blind, zrec_cell rec_K hE0 hw', fun U hU hW => zPx_at (As := [.ref 0, .int x]) hE0 hX hw' U hU hW⟩ rfl rfl hl'.1.1 rfl (lv_room (Nat.le_of_ble_eq_true rfl)) dW_end_4 ⟨Nat.le_refl _, Nat.le_refl _⟩) hw'.2.2.2 (fun q _ h => h) (fun q h => h) (fun q _ h => h) (fun E' ce q9 u t H1 locs1 ht hvm hpx hBX hz hkk hS' hce hcv hcl => ?_) (fun r u t H1 locs1 ht hvm hpost _ _ _ _ => hpost.elim)
  obtain rfl := hpx
  obtain ⟨rfl, hB1, hB2⟩ := hBX
  refine vx_catch (name := zIob) hown [] ⟨0, 9, 12, 13⟩ [] htab (fun z hz => by cases hz) rfl (by decide) (hts _ ww_iob) (va_Nw.use rfl hX.2.2.1) hce hcv hcl ?_
  refine lv_astore_n B.exec B.bytes dW_end_12 rfl hl'.1 (by decide) rfl (fun ls2 hl2 => ?_)
  refine lv_iconst (v := nI 1) B.exec B.bytes dW_end_13 (by decide) ?_
  exact W.zret B.exec B.bytes B.returns rfl (fun t2 ht2 hW => ⟨⟨nI 1, u, rfl, ⟨rfl, rfl⟩, by rw [ht2, ← ht]; exact hB1, hB2⟩, hS'.F ht2⟩) hS'.2.2 dW_end_14
set_option maxRecDepth 100000 in
set_option maxHeartbeats 4000000 in
theorem mwx_value (hl : l.stackTraces = false) (hd8 : 8 ≤ d) (h : Ev Lx xs d mK_value 0 (zarg [.ref 0, .int x]) [] M (fun pc' _ st' M' => pc' = 14 ∧ st' = [] ∧ M' = M)) : Met l mW_value.1 (zwsW mW_value [(0, 9, 12, 13)]) (zrx (d + 1)) (zPx dC dI dA ad B0 Lx xs [.ref 0, .int x, .ref 53] M) (va_Qi (fun (r : Int32) (u : zM) => r = nI 1 ∧ u = M) (zB dC dI dA ad B0) (zA B0)) 1 6 (zA B0) := by
  refine va_MetW (cc := mW_value.2.1) (maxL := mW_value.2.2.1) (ret := mW_value.2.2.2) (hh := [(0, 9, 12, 13)]) (by decide) rfl ?_
  intro p e s m args below meth c s₁ B hml hv
  obtain ⟨rfl, ⟨hE0, hK, hP, hD⟩, hX⟩ := hv
  have hts0 := atoms_spec (ws := zwsW mW_value [(0, 9, 12, 13)]) B.pre
  have hts : ∀ w ∈ zT, w.before _ s = true := fun w hw => hts0 w (List.mem_cons_of_mem _ hw)
  have hlocks := B.notSynchronized
  have hown : s.vm.findClass "KeptItemsLaw" = some m.cls := findClass_of_methodNamed B.named
  have htab : c.exceptionTable.toList = tableOf [(0, 9, 12, 13)] := vx_table (x := mW_value.1) B (hts0 _ List.mem_cons_self)
  rw [lg_entry_eq]
  refine zsound (wx_value (Lx := Lx) (xs := xs) (d := d + 1)) p e s m _ below meth c _ s.heap [] 0 0 _ _ ⟨B.exec, B.bytes, hml, hown, hts, ⟨Nat.le_refl _, Nat.le_refl _, Nat.zero_le _, Nat.zero_le _⟩, hE0⟩ (zl_entry [.ref 0, .int x, .ref 53] (zall rfl) (Nat.le_of_ble_eq_true rfl)) ⟨hK, hP, hD, va_S.rf⟩ ?_
  intro pc' L' st' M' H' locs' ls' hQ hl' hw'
  obtain ⟨rfl, rfl, rfl⟩ := hQ
  refine vx_calli (vx_runV (C := "KeptItems") (As := [.int x]) (rest := [.int (nI 0), .ref (ad 53)]) (b := ad 0) ⟨B.exec, B.bytes, hml, hown, hts⟩ (mx (As := [.ref 0, .int x]) (by decide) (zall rfl) (Nat.le_of_ble_eq_true rfl) hd8 hl h (by decide) wk_iob wi_iob zat_iob (Or.inl rfl) dK_value_14 dK_value_17 dK_value_18 dK_value_21) (cwV (rm := zrx d) 1 hts (zgood_V lW_27) rfl rfl rfl ⟨rfl, lW_27.1.2.2.1⟩ ⟨Nat.le_refl _, by show 8 + (2 + 11) + 64 * d ≤ 64 * (d + 1); omega⟩) ⟨zPx_blind, zrec_cell rec_K hE0 hw', fun U hU hW => zPx_at (As := [.ref 0, .int x]) hE0 hX hw' U hU hW⟩ rfl rfl hl'.1.1 rfl (lv_room (Nat.le_of_ble_eq_true rfl)) dW_value_4 ⟨Nat.le_refl _, Nat.le_refl _⟩) hw'.2.2.2 (fun q _ h => h) (fun q h => h) (fun q _ h => h) (fun E' ce q9 u t H1 locs1 ht hvm hpx hBX hz hkk hS' hce hcv hcl => ?_) (fun r u t H1 locs1 ht hvm hpost _ _ _ _ => hpost.elim)
  obtain rfl := hpx
  obtain ⟨rfl, hB1, hB2⟩ := hBX
  refine vx_catch (name := zIob) hown [] ⟨0, 9, 12, 13⟩ [] htab (fun z hz => by cases hz) rfl (by decide) (hts _ ww_iob) (va_Nw.use rfl hX.2.2.1) hce hcv hcl ?_
  refine lv_astore_n B.exec B.bytes dW_value_12 rfl hl'.1 (by decide) rfl (fun ls2 hl2 => ?_)
  refine lv_iconst (v := nI 1) B.exec B.bytes dW_value_13 (by decide) ?_
  exact W.zret B.exec B.bytes B.returns rfl (fun t2 ht2 hW => ⟨⟨nI 1, u, rfl, ⟨rfl, rfl⟩, by rw [ht2, ← ht]; exact hB1, hB2⟩, hS'.F ht2⟩) hS'.2.2 dW_value_14
set_option maxRecDepth 100000 in
set_option maxHeartbeats 4000000 in
theorem mwx_edit1 (hl : l.stackTraces = false) (hd8 : 8 ≤ d) (h : Ev Lx xs d mK_edit 0 (zarg [.ref 0, .int x, .int y]) [] M (fun pc' _ st' M' => pc' = 31 ∧ st' = [] ∧ M' = M)) : Met l mW_edit.1 (zwsW mW_edit [(0, 10, 13, 13), (0, 10, 17, 15)]) (zrx (d + 1)) (zPx dC dI dA ad B0 Lx xs [.ref 0, .int x, .int y, .ref 53] M) (va_Qi (fun (r : Int32) (u : zM) => r = nI 1 ∧ u = M) (zB dC dI dA ad B0) (zA B0)) 1 6 (zA B0) := by
  refine va_MetW (cc := mW_edit.2.1) (maxL := mW_edit.2.2.1) (ret := mW_edit.2.2.2) (hh := [(0, 10, 13, 13), (0, 10, 17, 15)]) (by decide) rfl ?_
  intro p e s m args below meth c s₁ B hml hv
  obtain ⟨rfl, ⟨hE0, hK, hP, hD⟩, hX⟩ := hv
  have hts0 := atoms_spec (ws := zwsW mW_edit [(0, 10, 13, 13), (0, 10, 17, 15)]) B.pre
  have hts : ∀ w ∈ zT, w.before _ s = true := fun w hw => hts0 w (List.mem_cons_of_mem _ hw)
  have hlocks := B.notSynchronized
  have hown : s.vm.findClass "KeptItemsLaw" = some m.cls := findClass_of_methodNamed B.named
  have htab : c.exceptionTable.toList = tableOf [(0, 10, 13, 13), (0, 10, 17, 15)] := vx_table (x := mW_edit.1) B (hts0 _ List.mem_cons_self)
  rw [lg_entry_eq]
  refine zsound (wx_edit (Lx := Lx) (xs := xs) (d := d + 1)) p e s m _ below meth c _ s.heap [] 0 0 _ _ ⟨B.exec, B.bytes, hml, hown, hts, ⟨Nat.le_refl _, Nat.le_refl _, Nat.zero_le _, Nat.zero_le _⟩, hE0⟩ (zl_entry [.ref 0, .int x, .int y, .ref 53] (zall rfl) (Nat.le_of_ble_eq_true rfl)) ⟨hK, hP, hD, va_S.rf⟩ ?_
  intro pc' L' st' M' H' locs' ls' hQ hl' hw'
  obtain ⟨rfl, rfl, rfl⟩ := hQ
  refine vx_calli (vx_runV (C := "KeptItems") (As := [.int x, .int y]) (rest := [.int (nI 0), .ref (ad 53)]) (b := ad 0) ⟨B.exec, B.bytes, hml, hown, hts⟩ (mx (As := [.ref 0, .int x, .int y]) (by decide) (zall rfl) (Nat.le_of_ble_eq_true rfl) hd8 hl h (by decide) wk_iob wi_iob zat_iob (Or.inl rfl) dK_edit_31 dK_edit_34 dK_edit_35 dK_edit_38) (cwV (rm := zrx d) 2 hts (zgood_V lW_7) rfl rfl rfl ⟨rfl, lW_7.1.2.2.1⟩ ⟨Nat.le_refl _, by show 8 + (6 + 11) + 64 * d ≤ 64 * (d + 1); omega⟩) ⟨zPx_blind, zrec_cell rec_K hE0 hw', fun U hU hW => zPx_at (As := [.ref 0, .int x, .int y]) hE0 hX hw' U hU hW⟩ rfl rfl hl'.1.1 rfl (lv_room (Nat.le_of_ble_eq_true rfl)) dW_edit_5 ⟨Nat.le_refl _, Nat.le_refl _⟩) hw'.2.2.2 (fun q _ h => h) (fun q h => h) (fun q _ h => h) (fun E' ce q9 u t H1 locs1 ht hvm hpx hBX hz hkk hS' hce hcv hcl => ?_) (fun r u t H1 locs1 ht hvm hpost _ _ _ _ => hpost.elim)
  obtain rfl := hpx
  obtain ⟨rfl, hB1, hB2⟩ := hBX
  refine vx_catch (name := zIob) hown [] ⟨0, 10, 13, 13⟩ [⟨0, 10, 17, 15⟩] htab (fun z hz => by cases hz) rfl (by decide) (hts _ ww_iob) (va_Nw.use rfl hX.2.2.1) hce hcv hcl ?_
  refine lv_astore B.exec B.bytes dW_edit_13 hl'.1 (by decide) rfl (fun ls2 hl2 => ?_)
  refine lv_iconst (v := nI 1) B.exec B.bytes dW_edit_15 (by decide) ?_
  exact W.zret B.exec B.bytes B.returns rfl (fun t2 ht2 hW => ⟨⟨nI 1, u, rfl, ⟨rfl, rfl⟩, by rw [ht2, ← ht]; exact hB1, hB2⟩, hS'.F ht2⟩) hS'.2.2 dW_edit_16
set_option maxRecDepth 100000 in
set_option maxHeartbeats 4000000 in
theorem mwx_edit2 (hl : l.stackTraces = false) (hd8 : 8 ≤ d) (h : Ev Lx xs d mK_edit 0 (zarg [.ref 0, .int x, .int y]) [] M (fun pc' _ st' M' => pc' = 53 ∧ st' = [] ∧ M' = M)) : Met l mW_edit.1 (zwsW mW_edit [(0, 10, 13, 13), (0, 10, 17, 15)]) (zrx (d + 1)) (zPx dC dI dA ad B0 Lx xs [.ref 0, .int x, .int y, .ref 53] M) (va_Qi (fun (r : Int32) (u : zM) => r = nI 2 ∧ u = M) (zB dC dI dA ad B0) (zA B0)) 1 6 (zA B0) := by
  refine va_MetW (cc := mW_edit.2.1) (maxL := mW_edit.2.2.1) (ret := mW_edit.2.2.2) (hh := [(0, 10, 13, 13), (0, 10, 17, 15)]) (by decide) rfl ?_
  intro p e s m args below meth c s₁ B hml hv
  obtain ⟨rfl, ⟨hE0, hK, hP, hD⟩, hX⟩ := hv
  have hts0 := atoms_spec (ws := zwsW mW_edit [(0, 10, 13, 13), (0, 10, 17, 15)]) B.pre
  have hts : ∀ w ∈ zT, w.before _ s = true := fun w hw => hts0 w (List.mem_cons_of_mem _ hw)
  have hlocks := B.notSynchronized
  have hown : s.vm.findClass "KeptItemsLaw" = some m.cls := findClass_of_methodNamed B.named
  have htab : c.exceptionTable.toList = tableOf [(0, 10, 13, 13), (0, 10, 17, 15)] := vx_table (x := mW_edit.1) B (hts0 _ List.mem_cons_self)
  rw [lg_entry_eq]
  refine zsound (wx_edit (Lx := Lx) (xs := xs) (d := d + 1)) p e s m _ below meth c _ s.heap [] 0 0 _ _ ⟨B.exec, B.bytes, hml, hown, hts, ⟨Nat.le_refl _, Nat.le_refl _, Nat.zero_le _, Nat.zero_le _⟩, hE0⟩ (zl_entry [.ref 0, .int x, .int y, .ref 53] (zall rfl) (Nat.le_of_ble_eq_true rfl)) ⟨hK, hP, hD, va_S.rf⟩ ?_
  intro pc' L' st' M' H' locs' ls' hQ hl' hw'
  obtain ⟨rfl, rfl, rfl⟩ := hQ
  refine vx_calli (vx_runV (C := "KeptItems") (As := [.int x, .int y]) (rest := [.int (nI 0), .ref (ad 53)]) (b := ad 0) ⟨B.exec, B.bytes, hml, hown, hts⟩ (mx (As := [.ref 0, .int x, .int y]) (by decide) (zall rfl) (Nat.le_of_ble_eq_true rfl) hd8 hl h (by decide) wk_ise wi_ise zat_ise (Or.inr rfl) dK_edit_53 dK_edit_56 dK_edit_57 dK_edit_60) (cwV (rm := zrx d) 2 hts (zgood_V lW_7) rfl rfl rfl ⟨rfl, lW_7.1.2.2.1⟩ ⟨Nat.le_refl _, by show 8 + (6 + 11) + 64 * d ≤ 64 * (d + 1); omega⟩) ⟨zPx_blind, zrec_cell rec_K hE0 hw', fun U hU hW => zPx_at (As := [.ref 0, .int x, .int y]) hE0 hX hw' U hU hW⟩ rfl rfl hl'.1.1 rfl (lv_room (Nat.le_of_ble_eq_true rfl)) dW_edit_5 ⟨Nat.le_refl _, Nat.le_refl _⟩) hw'.2.2.2 (fun q _ h => h) (fun q h => h) (fun q _ h => h) (fun E' ce q9 u t H1 locs1 ht hvm hpx hBX hz hkk hS' hce hcv hcl => ?_) (fun r u t H1 locs1 ht hvm hpost _ _ _ _ => hpost.elim)
  obtain rfl := hpx
  obtain ⟨rfl, hB1, hB2⟩ := hBX
  refine vx_catch (name := zIse) hown [⟨0, 10, 13, 13⟩] ⟨0, 10, 17, 15⟩ [] htab (fun z hz => Or.inr (by rcases List.mem_singleton.mp hz with rfl; exact ⟨by decide, zIob, hts _ ww_iob, hX.2.2.2.2.1⟩)) rfl (by decide) (hts _ ww_ise) (va_Nw.use rfl hX.2.2.2.1) hce hcv hcl ?_
  refine lv_astore B.exec B.bytes dW_edit_17 hl'.1 (by decide) rfl (fun ls2 hl2 => ?_)
  refine lv_iconst (v := nI 2) B.exec B.bytes dW_edit_19 (by decide) ?_
  exact W.zret B.exec B.bytes B.returns rfl (fun t2 ht2 hW => ⟨⟨nI 2, u, rfl, ⟨rfl, rfl⟩, by rw [ht2, ← ht]; exact hB1, hB2⟩, hS'.F ht2⟩) hS'.2.2 dW_edit_20
end
