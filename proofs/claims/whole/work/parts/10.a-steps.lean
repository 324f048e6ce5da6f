/- handier forms of the steps -/
def zpost (y : zY) (R : Option Int32 → zM → Prop) : zQ := fun pc _ st M => ∃ o, zEnd y pc st o ∧ R o M
theorem zall {As : List Value} (h : As.all (fun v => v.category == 1) = true) : ∀ v ∈ As, v.category = 1 := by
  intro v hv
  have := List.all_eq_true.mp h v hv
  simpa using this
theorem nI_mul (a b : Nat) : nI a * nI b = nI (a * b) := pk_mul a b
section
variable {Lx : Nat} {xs : Nat → Int32} {d : Nat} {y : zY} {pc : Nat} {L : Nat → Value} {st : List Value} {M : zM} {Q : zQ}
theorem ev_inc1 {i k : Nat} (h0 : decode y.2.1 pc = .ok (.iinc i 1, 3)) (h1 : L i = .int (nI k)) (h2 : Ev Lx xs d y (pc + 3) (zu L i (.int (nI (k + 1)))) st M Q) : Ev Lx xs d y pc L st M Q :=
  ev_inc h0 h1 (by rw [show nI k + Int32.ofInt 1 = nI (k + 1) from (nI_succ k).symm]; exact h2)
theorem ev_add {a b : Int32} (h0 : decode y.2.1 pc = .ok (.iadd, 1)) (h2 : Ev Lx xs d y (pc + 1) L (.int (a + b) :: st) M Q) : Ev Lx xs d y pc L (.int b :: .int a :: st) M Q := ev_bin h0 rfl h2
theorem ev_sub {a b : Int32} (h0 : decode y.2.1 pc = .ok (.isub, 1)) (h2 : Ev Lx xs d y (pc + 1) L (.int (a - b) :: st) M Q) : Ev Lx xs d y pc L (.int b :: .int a :: st) M Q := ev_bin h0 rfl h2
theorem ev_mul {a b : Int32} (h0 : decode y.2.1 pc = .ok (.imul, 1)) (h2 : Ev Lx xs d y (pc + 1) L (.int (a * b) :: st) M Q) : Ev Lx xs d y pc L (.int b :: .int a :: st) M Q := ev_bin h0 rfl h2
theorem ev_and {a b : Int32} (h0 : decode y.2.1 pc = .ok (.iand, 1)) (h2 : Ev Lx xs d y (pc + 1) L (.int (a &&& b) :: st) M Q) : Ev Lx xs d y pc L (.int b :: .int a :: st) M Q := ev_bin h0 rfl h2
theorem ev_shr {a b : Int32} (h0 : decode y.2.1 pc = .ok (.ishr, 1)) (h2 : Ev Lx xs d y (pc + 1) L (.int (a >>> (b &&& 31)) :: st) M Q) : Ev Lx xs d y pc L (.int b :: .int a :: st) M Q := ev_bin h0 rfl h2
theorem ev_addN {a b : Nat} (h0 : decode y.2.1 pc = .ok (.iadd, 1)) (h2 : Ev Lx xs d y (pc + 1) L (.int (nI (a + b)) :: st) M Q) : Ev Lx xs d y pc L (.int (nI b) :: .int (nI a) :: st) M Q := ev_add h0 (by rw [nI_add]; exact h2)
theorem ev_subN {a b : Nat} (h0 : decode y.2.1 pc = .ok (.isub, 1)) (h : b ≤ a) (h2 : Ev Lx xs d y (pc + 1) L (.int (nI (a - b)) :: st) M Q) : Ev Lx xs d y pc L (.int (nI b) :: .int (nI a) :: st) M Q := ev_sub h0 (by rw [pk_sub h]; exact h2)
theorem ev_mulN {a b : Nat} (h0 : decode y.2.1 pc = .ok (.imul, 1)) (h2 : Ev Lx xs d y (pc + 1) L (.int (nI (a * b)) :: st) M Q) : Ev Lx xs d y pc L (.int (nI b) :: .int (nI a) :: st) M Q := ev_mul h0 (by rw [nI_mul]; exact h2)
theorem ev_divN {a b : Nat} (h0 : decode y.2.1 pc = .ok (.idiv, 1)) (ha : a < 2 ^ 31) (hb : 0 < b) (hb2 : b < 2 ^ 31) (h2 : Ev Lx xs d y (pc + 1) L (.int (nI (a / b)) :: st) M Q) : Ev Lx xs d y pc L (.int (nI b) :: .int (nI a) :: st) M Q :=
  ev_bin h0 (by show (if nI b = 0 then none else some (nI a / nI b)) = some (nI (a / b)); rw [if_neg (nI_ne0 hb hb2), pk_div ha hb hb2]) h2
theorem ev_remN {a b : Nat} (h0 : decode y.2.1 pc = .ok (.irem, 1)) (ha : a < 2 ^ 31) (hb : 0 < b) (hb2 : b < 2 ^ 31) (h2 : Ev Lx xs d y (pc + 1) L (.int (nI (a % b)) :: st) M Q) : Ev Lx xs d y pc L (.int (nI b) :: .int (nI a) :: st) M Q :=
  ev_bin h0 (by show (if nI b = 0 then none else some (nI a - nI a / nI b * nI b)) = some (nI (a % b)); rw [if_neg (nI_ne0 hb hb2), pk_rem ha hb hb2]) h2
theorem ev_if0 {op : Jvm.ClassFile.Cond} {off : Int} {tgt : Nat} {a : Int32} (h0 : decode y.2.1 pc = .ok (.ifCond op off, 3)) (h1 : (pc : Int) + off = (tgt : Int)) (h2 : zcond op a (nI 0) → Ev Lx xs d y tgt L st M Q) (h3 : ¬ zcond op a (nI 0) → Ev Lx xs d y (pc + 3) L st M Q) : Ev Lx xs d y pc L (.int a :: st) M Q := ev_if h0 h1 h2 h3
theorem ev_getrP {idx o ci k q : Nat} (h0 : decode y.2.1 pc = .ok (.getfield idx, 3)) (h1 : zFld y.1.cls idx ci k true) (h2 : zsh[o]? = some (.inr ci)) (hq : M.2.1 o k = q) (h3 : Ev Lx xs d y (pc + 3) L (.ref q :: st) M Q) : Ev Lx xs d y pc L (.ref o :: st) M Q := ev_getr h0 h1 h2 (by rw [hq]; exact h3)
theorem ev_aldN {ins : Instr} {t o n i : Nat} (h0 : decode y.2.1 pc = .ok (ins, 1)) (h1 : zld ins = some t) (h2 : zsh[o]? = some (.inl (t, n))) (h3 : i < n) (h4 : Ev Lx xs d y (pc + 1) L (.int (M.1 o i) :: st) M Q) : Ev Lx xs d y pc L (.int (nI i) :: .ref o :: st) M Q := by
  have hn := zsh_len h2
  refine ev_ald h0 h1 h2 (vp_in_nI h3 (by omega)) ?_
  rw [nI_clamp (by omega)]; exact h4
theorem ev_iastN {o n i : Nat} {x : Int32} (h0 : decode y.2.1 pc = .ok (.iastore, 1)) (h2 : zsh[o]? = some (.inl (0, n))) (h3 : i < n) (h4 : Ev Lx xs d y (pc + 1) L st (zI M o i x) Q) : Ev Lx xs d y pc L (.int x :: .int (nI i) :: .ref o :: st) M Q := by
  have hn := zsh_len h2
  refine ev_ast h0 rfl h2 (vp_in_nI h3 (by omega)) ?_
  rw [nI_clamp (by omega)]; exact h4
theorem ev_castN {o n i c : Nat} (h0 : decode y.2.1 pc = .ok (.castore, 1)) (h2 : zsh[o]? = some (.inl (1, n))) (h3 : i < n) (hc : c < 65536) (h4 : Ev Lx xs d y (pc + 1) L st (zI M o i (nI c)) Q) : Ev Lx xs d y pc L (.int (nI c) :: .int (nI i) :: .ref o :: st) M Q := by
  have hn := zsh_len h2
  refine ev_ast h0 rfl h2 (vp_in_nI h3 (by omega)) ?_
  have hz : znr 1 (nI c) = nI c := by
    show vp_nar .char (nI c) = nI c
    unfold vp_nar
    rw [(pk_charN hc).1]
  rw [nI_clamp (by omega), hz]; exact h4
theorem ev_zastN {o n i c : Nat} (h0 : decode y.2.1 pc = .ok (.bastore, 1)) (h2 : zsh[o]? = some (.inl (2, n))) (h3 : i < n) (hc : c < 2) (h4 : Ev Lx xs d y (pc + 1) L st (zI M o i (nI c)) Q) : Ev Lx xs d y pc L (.int (nI c) :: .int (nI i) :: .ref o :: st) M Q := by
  have hn := zsh_len h2
  refine ev_ast h0 rfl h2 (vp_in_nI h3 (by omega)) ?_
  have hz : znr 2 (nI c) = nI c := by
    rcases (show c = 0 ∨ c = 1 by omega) with rfl | rfl <;> decide
  rw [nI_clamp (by omega), hz]; exact h4
theorem ev_ret {x : Int32} {ty : FieldType} {R : Option Int32 → zM → Prop} (h0 : decode y.2.1 pc = .ok (.ireturn, 1)) (h1 : y.2.2.2 = some ty) (h2 : narrow ty (.int x) = .int x) (h3 : R (some x) M) : Ev Lx xs d y pc L [.int x] M (zpost y R) := ev_done ⟨some x, ⟨h0, rfl, ty, h1, h2⟩, h3⟩
theorem ev_vret {R : Option Int32 → zM → Prop} (h0 : decode y.2.1 pc = .ok (.return_, 1)) (h1 : y.2.2.2 = none) (h3 : R none M) : Ev Lx xs d y pc L [] M (zpost y R) := ev_done ⟨none, ⟨h0, rfl, h1⟩, h3⟩
end
/-- the method y, called with As: it returns, R holds of its answer and its end -/
def Ct (Lx : Nat) (xs : Nat → Int32) (d : Nat) (y : zY) (As : List Value) (M : zM) (R : Option Int32 → zM → Prop) : Prop := Ev Lx xs d y 0 (zarg As) [] M (zpost y R)
/-- a method that answers x and changes nothing -/
def Pu (Lx : Nat) (xs : Nat → Int32) (d : Nat) (y : zY) (As : List Value) (M : zM) (x : Int32) : Prop := Ct Lx xs d y As M (fun o M' => o = some x ∧ M' = M)
section
variable {Lx : Nat} {xs : Nat → Int32} {d : Nat} {y : zY} {pc : Nat} {L : Nat → Value} {st stk : List Value} {M : zM} {Q : zQ}
theorem ev_cS {idx : Nat} {k : zY} {As : List Value} {R : Option Int32 → zM → Prop} (h0 : decode y.2.1 pc = .ok (.invokestatic idx, 3)) (hc : Ct Lx xs d k As M R) (h1 : zLkS y.1.cls idx k As.length) (h2 : As.all (fun v => v.category == 1) = true) (h3 : As.length ≤ k.2.2.1) (hs : stk = As.reverse ++ st) (h4 : zcat st ≤ 8) (h6 : ∀ o M', R o M' → Ev Lx xs (d + 1) y (pc + 3) L (zpush o st) M' Q) : Ev Lx xs (d + 1) y pc L stk M Q := by
  subst hs; exact ev_callS h0 h1 (zall h2) h3 h4 hc h6
theorem ev_cV {idx b : Nat} {k : zY} {As : List Value} {R : Option Int32 → zM → Prop} (h0 : decode y.2.1 pc = .ok (.invokevirtual idx, 3)) (hc : Ct Lx xs d k (.ref b :: As) M R) (h1 : zLkV y.1.cls idx k As.length) (hb : zrec b k.1.cls) (h2 : As.all (fun v => v.category == 1) = true) (h3 : As.length + 1 ≤ k.2.2.1) (hs : stk = As.reverse ++ .ref b :: st) (h4 : zcat st ≤ 8) (h6 : ∀ o M', R o M' → Ev Lx xs (d + 1) y (pc + 3) L (zpush o st) M' Q) : Ev Lx xs (d + 1) y pc L stk M Q := by
  subst hs; exact ev_callV h0 h1 hb (zall h2) h3 h4 hc h6
theorem ev_pS {idx : Nat} {k : zY} {As : List Value} {x : Int32} (h0 : decode y.2.1 pc = .ok (.invokestatic idx, 3)) (hc : Pu Lx xs d k As M x) (h1 : zLkS y.1.cls idx k As.length) (h2 : As.all (fun v => v.category == 1) = true) (h3 : As.length ≤ k.2.2.1) (hs : stk = As.reverse ++ st) (h4 : zcat st ≤ 8) (h6 : Ev Lx xs (d + 1) y (pc + 3) L (.int x :: st) M Q) : Ev Lx xs (d + 1) y pc L stk M Q :=
  ev_cS h0 hc h1 h2 h3 hs h4 (fun o M' h => by obtain ⟨rfl, rfl⟩ := h; exact h6)
theorem ev_pV {idx b : Nat} {k : zY} {As : List Value} {x : Int32} (h0 : decode y.2.1 pc = .ok (.invokevirtual idx, 3)) (hc : Pu Lx xs d k (.ref b :: As) M x) (h1 : zLkV y.1.cls idx k As.length) (hb : zrec b k.1.cls) (h2 : As.all (fun v => v.category == 1) = true) (h3 : As.length + 1 ≤ k.2.2.1) (hs : stk = As.reverse ++ .ref b :: st) (h4 : zcat st ≤ 8) (h6 : Ev Lx xs (d + 1) y (pc + 3) L (.int x :: st) M Q) : Ev Lx xs (d + 1) y pc L stk M Q :=
  ev_cV h0 hc h1 hb h2 h3 hs h4 (fun o M' h => by obtain ⟨rfl, rfl⟩ := h; exact h6)
end
