/- the law's own methods that try a call: where it doesn't throw; where it does, up to the call (rows laid by program) -/
section
variable {Lx : Nat} {xs : Nat → Int32} {d d' K : Nat} {M : zM} {x y : Int32}
theorem wn_edit (h : Tn Lx xs d d' mK_edit mM_edit [.int x, .int y] M K) : Ct Lx xs (d + 1) mW_edit [.ref 0, .int x, .int y, .ref 53] M (fun q M' => q = some (nI 0) ∧ ∃ (v : Int32) (M1 : zM), M' = zJ M1 v.toInt64 ∧ Cx Lx xs d' mM_edit [.ref 25, .int x, .int y] (zJ M1 v.toInt64) (fun o' M' => o' = some v ∧ M'.2.2 = v.toInt64 ∧ M'.1 25 0 = nI 0 ∧ zInv M' K)) := by
  obtain ⟨R0, hR0, hR1⟩ := h
  unfold Ct
  refine ev_al dW_edit_0 rfl rfl ?_
  refine ev_const (v := nI 0) dW_edit_1 (by decide) ?_
  refine ev_al dW_edit_2 rfl rfl ?_
  refine ev_il dW_edit_3 rfl rfl ?_
  refine ev_il dW_edit_4 rfl rfl ?_
  refine ev_cV dW_edit_5 hR0 lW_7 rec_K rfl (Nat.le_of_ble_eq_true rfl) rfl (Nat.le_of_ble_eq_true rfl) (fun o1 M1 ho1 => ?_)
  obtain ⟨v, rfl, hC⟩ := hR1 o1 M1 ho1
  refine ev_i2l dW_edit_8 ?_
  refine ev_last dW_edit_9 rfl (pk_in 0 1 (by decide)) ?_
  refine ev_goto (tgt := 21) dW_edit_10 (by decide) ?_
  refine ev_const (v := nI 0) dW_edit_21 (by decide) ?_
  refine ev_ret dW_edit_22 rfl rfl ?_
  exact ⟨rfl, v, M1, rfl, hC _⟩
theorem wx_edit : Ev Lx xs d mW_edit 0 (zarg [.ref 0, .int x, .int y, .ref 53]) [] M (fun pc' L' st' M' => pc' = 5 ∧ st' = [.int y, .int x, .ref 0, .int (nI 0), .ref 53] ∧ M' = M) := by
  refine ev_al dW_edit_0 rfl rfl ?_
  refine ev_const (v := nI 0) dW_edit_1 (by decide) ?_
  refine ev_al dW_edit_2 rfl rfl ?_
  refine ev_il dW_edit_3 rfl rfl ?_
  refine ev_il dW_edit_4 rfl rfl ?_
  exact ev_done ⟨rfl, rfl, rfl⟩
theorem wn_token (h : Tn Lx xs d d' mK_token mM_token [.int x] M K) : Ct Lx xs (d + 1) mW_token [.ref 0, .int x, .ref 53] M (fun q M' => q = some (nI 0) ∧ ∃ (v : Int32) (M1 : zM), M' = zJ M1 v.toInt64 ∧ Cx Lx xs d' mM_token [.ref 25, .int x] (zJ M1 v.toInt64) (fun o' M' => o' = some v ∧ M'.2.2 = v.toInt64 ∧ M'.1 25 0 = nI 0 ∧ zInv M' K)) := by
  obtain ⟨R0, hR0, hR1⟩ := h
  unfold Ct
  refine ev_al dW_token_0 rfl rfl ?_
  refine ev_const (v := nI 0) dW_token_1 (by decide) ?_
  refine ev_al dW_token_2 rfl rfl ?_
  refine ev_il dW_token_3 rfl rfl ?_
  refine ev_cV dW_token_4 hR0 lW_17 rec_K rfl (Nat.le_of_ble_eq_true rfl) rfl (Nat.le_of_ble_eq_true rfl) (fun o1 M1 ho1 => ?_)
  obtain ⟨v, rfl, hC⟩ := hR1 o1 M1 ho1
  refine ev_i2l dW_token_7 ?_
  refine ev_last dW_token_8 rfl (pk_in 0 1 (by decide)) ?_
  refine ev_goto (tgt := 15) dW_token_9 (by decide) ?_
  refine ev_const (v := nI 0) dW_token_15 (by decide) ?_
  refine ev_ret dW_token_16 rfl rfl ?_
  exact ⟨rfl, v, M1, rfl, hC _⟩
theorem wx_token : Ev Lx xs d mW_token 0 (zarg [.ref 0, .int x, .ref 53]) [] M (fun pc' L' st' M' => pc' = 4 ∧ st' = [.int x, .ref 0, .int (nI 0), .ref 53] ∧ M' = M) := by
  refine ev_al dW_token_0 rfl rfl ?_
  refine ev_const (v := nI 0) dW_token_1 (by decide) ?_
  refine ev_al dW_token_2 rfl rfl ?_
  refine ev_il dW_token_3 rfl rfl ?_
  exact ev_done ⟨rfl, rfl, rfl⟩
theorem wn_begin (h : Tn Lx xs d d' mK_begin mM_begin [.int x] M K) : Ct Lx xs (d + 1) mW_begin [.ref 0, .int x, .ref 53] M (fun q M' => q = some (nI 0) ∧ ∃ (v : Int32) (M1 : zM), M' = zJ M1 v.toInt64 ∧ Cx Lx xs d' mM_begin [.ref 25, .int x] (zJ M1 v.toInt64) (fun o' M' => o' = some v ∧ M'.2.2 = v.toInt64 ∧ M'.1 25 0 = nI 0 ∧ zInv M' K)) := by
  obtain ⟨R0, hR0, hR1⟩ := h
  unfold Ct
  refine ev_al dW_begin_0 rfl rfl ?_
  refine ev_const (v := nI 0) dW_begin_1 (by decide) ?_
  refine ev_al dW_begin_2 rfl rfl ?_
  refine ev_il dW_begin_3 rfl rfl ?_
  refine ev_cV dW_begin_4 hR0 lW_21 rec_K rfl (Nat.le_of_ble_eq_true rfl) rfl (Nat.le_of_ble_eq_true rfl) (fun o1 M1 ho1 => ?_)
  obtain ⟨v, rfl, hC⟩ := hR1 o1 M1 ho1
  refine ev_i2l dW_begin_7 ?_
  refine ev_last dW_begin_8 rfl (pk_in 0 1 (by decide)) ?_
  refine ev_goto (tgt := 15) dW_begin_9 (by decide) ?_
  refine ev_const (v := nI 0) dW_begin_15 (by decide) ?_
  refine ev_ret dW_begin_16 rfl rfl ?_
  exact ⟨rfl, v, M1, rfl, hC _⟩
theorem wx_begin : Ev Lx xs d mW_begin 0 (zarg [.ref 0, .int x, .ref 53]) [] M (fun pc' L' st' M' => pc' = 4 ∧ st' = [.int x, .ref 0, .int (nI 0), .ref 53] ∧ M' = M) := by
  refine ev_al dW_begin_0 rfl rfl ?_
  refine ev_const (v := nI 0) dW_begin_1 (by decide) ?_
  refine ev_al dW_begin_2 rfl rfl ?_
  refine ev_il dW_begin_3 rfl rfl ?_
  exact ev_done ⟨rfl, rfl, rfl⟩
theorem wn_end (h : Tn Lx xs d d' mK_end mM_end [.int x] M K) : Ct Lx xs (d + 1) mW_end [.ref 0, .int x, .ref 53] M (fun q M' => q = some (nI 0) ∧ ∃ (v : Int32) (M1 : zM), M' = zJ M1 v.toInt64 ∧ Cx Lx xs d' mM_end [.ref 25, .int x] (zJ M1 v.toInt64) (fun o' M' => o' = some v ∧ M'.2.2 = v.toInt64 ∧ M'.1 25 0 = nI 0 ∧ zInv M' K)) := by
  obtain ⟨R0, hR0, hR1⟩ := h
  unfold Ct
  refine ev_al dW_end_0 rfl rfl ?_
  refine ev_const (v := nI 0) dW_end_1 (by decide) ?_
  refine ev_al dW_end_2 rfl rfl ?_
  refine ev_il dW_end_3 rfl rfl ?_
  refine ev_cV dW_end_4 hR0 lW_24 rec_K rfl (Nat.le_of_ble_eq_true rfl) rfl (Nat.le_of_ble_eq_true rfl) (fun o1 M1 ho1 => ?_)
  obtain ⟨v, rfl, hC⟩ := hR1 o1 M1 ho1
  refine ev_i2l dW_end_7 ?_
  refine ev_last dW_end_8 rfl (pk_in 0 1 (by decide)) ?_
  refine ev_goto (tgt := 15) dW_end_9 (by decide) ?_
  refine ev_const (v := nI 0) dW_end_15 (by decide) ?_
  refine ev_ret dW_end_16 rfl rfl ?_
  exact ⟨rfl, v, M1, rfl, hC _⟩
theorem wx_end : Ev Lx xs d mW_end 0 (zarg [.ref 0, .int x, .ref 53]) [] M (fun pc' L' st' M' => pc' = 4 ∧ st' = [.int x, .ref 0, .int (nI 0), .ref 53] ∧ M' = M) := by
  refine ev_al dW_end_0 rfl rfl ?_
  refine ev_const (v := nI 0) dW_end_1 (by decide) ?_
  refine ev_al dW_end_2 rfl rfl ?_
  refine ev_il dW_end_3 rfl rfl ?_
  exact ev_done ⟨rfl, rfl, rfl⟩
theorem wn_value (h : Tn Lx xs d d' mK_value mM_value [.int x] M K) : Ct Lx xs (d + 1) mW_value [.ref 0, .int x, .ref 53] M (fun q M' => q = some (nI 0) ∧ ∃ (v : Int32) (M1 : zM), M' = zJ M1 v.toInt64 ∧ Cx Lx xs d' mM_value [.ref 25, .int x] (zJ M1 v.toInt64) (fun o' M' => o' = some v ∧ M'.2.2 = v.toInt64 ∧ M'.1 25 0 = nI 0 ∧ zInv M' K)) := by
  obtain ⟨R0, hR0, hR1⟩ := h
  unfold Ct
  refine ev_al dW_value_0 rfl rfl ?_
  refine ev_const (v := nI 0) dW_value_1 (by decide) ?_
  refine ev_al dW_value_2 rfl rfl ?_
  refine ev_il dW_value_3 rfl rfl ?_
  refine ev_cV dW_value_4 hR0 lW_27 rec_K rfl (Nat.le_of_ble_eq_true rfl) rfl (Nat.le_of_ble_eq_true rfl) (fun o1 M1 ho1 => ?_)
  obtain ⟨v, rfl, hC⟩ := hR1 o1 M1 ho1
  refine ev_i2l dW_value_7 ?_
  refine ev_last dW_value_8 rfl (pk_in 0 1 (by decide)) ?_
  refine ev_goto (tgt := 15) dW_value_9 (by decide) ?_
  refine ev_const (v := nI 0) dW_value_15 (by decide) ?_
  refine ev_ret dW_value_16 rfl rfl ?_
  exact ⟨rfl, v, M1, rfl, hC _⟩
theorem wx_value : Ev Lx xs d mW_value 0 (zarg [.ref 0, .int x, .ref 53]) [] M (fun pc' L' st' M' => pc' = 4 ∧ st' = [.int x, .ref 0, .int (nI 0), .ref 53] ∧ M' = M) := by
  refine ev_al dW_value_0 rfl rfl ?_
  refine ev_const (v := nI 0) dW_value_1 (by decide) ?_
  refine ev_al dW_value_2 rfl rfl ?_
  refine ev_il dW_value_3 rfl rfl ?_
  exact ev_done ⟨rfl, rfl, rfl⟩
end
