/- what the class throws, and the law's own methods that catch it -/
def zIob : String := "java/lang/IndexOutOfBoundsException"
def zIse : String := "java/lang/IllegalStateException"
def zNm : List String := ["java/lang/RuntimeException", "java/lang/Exception"]
def zDr : Jvm.Cond := .declares ⟨"java/lang/RuntimeException", "<init>", "()V"⟩
def zDe : Jvm.Cond := .declares ⟨"java/lang/Exception", "<init>", "()V"⟩
def zDt : Jvm.Cond := .declares ⟨"java/lang/Throwable", "<init>", "()V"⟩
def zEx (B0 : Nat) (s : State) (H : Heap) : Prop := vx_Zq Bundle.tN "UNASSIGNED_STACK" Bundle.steD (zA B0) s H ∧ vx_Zq Bundle.tN "SUPPRESSED_SENTINEL" Bundle.listD (zA B0) s H ∧ va_Nw (.castable zIob zIob) s ∧ va_Nw (.castable zIse zIse) s ∧ va_Nc zIse zIob s ∧ va_Nw zDr s ∧ va_Nw zDe s ∧ va_Nw zDt s
theorem zEx.next {B0 : Nat} {s U : State} {H : Heap} {locs : List Loc} (h : zEx B0 s s.heap) (hS : va_S (zA B0) s.heap H locs) (hU : U.heap = H) (hW : s.WarmedH U.vm) : zEx B0 U U.heap := by
  subst hU
  obtain ⟨h1, h2, h3, h4, h5, h6, h7, h8⟩ := h
  exact ⟨vx_Zq.moved hW.alike (h1.kept hS.2.1), vx_Zq.moved hW.alike (h2.kept hS.2.1), va_Nw.warmC hW h3, va_Nw.warmC hW h4, va_Nc.moved hW.alike h5, va_Nw.warmD hW h6, va_Nw.warmD hW h7, va_Nw.warmD hW h8⟩
def zat (own : String) (ic : Nat) (E : String) : Bool := (vx_at0 own ic E zNm).all (fun w => (decide (w ∈ tables_1) && goodWord w) || decide (w = .castable E E) || decide (w = zDr) || decide (w = zDe) || decide (w = zDt))
theorem zat_iob : zat "KeptItems" 42 zIob = true := by decide +kernel
theorem zat_ise : zat "KeptItems" 45 zIse = true := by decide +kernel
theorem zat_in {own : String} {ic : Nat} {E : String} (h : zat own ic E = true) (w : Jvm.Cond) (hw : w ∈ vx_at0 own ic E zNm) : w ∈ zT ∨ w = .castable E E ∨ w = zDr ∨ w = zDe ∨ w = zDt := by
  have := List.all_eq_true.mp h w hw
  simp only [Bool.or_eq_true, Bool.and_eq_true, decide_eq_true_eq] at this
  rcases this with (((⟨h1, h2⟩ | h1) | h1) | h1) | h1
  · exact Or.inl (List.mem_filter.mpr ⟨List.mem_append_right _ h1, h2⟩)
  · exact Or.inr (Or.inl h1)
  · exact Or.inr (Or.inr (Or.inl h1))
  · exact Or.inr (Or.inr (Or.inr (Or.inl h1)))
  · exact Or.inr (Or.inr (Or.inr (Or.inr h1)))
theorem zT_ot {w : Jvm.Cond} (h : w ∈ zT) : vx_ot w = true := by
  unfold vx_ot
  rw [(List.mem_filter.mp h).2, Bool.or_true]
section
variable {l : Launch} {dC : Nat → ClassId} {dI : Nat → Nat → Nat} {dA : Nat → ClassId} {ad : Nat → Nat} {B0 Lx : Nat} {xs : Nat → Int32}
def zPx (dC : Nat → ClassId) (dI : Nat → Nat → Nat) (dA : Nat → ClassId) (ad : Nat → Nat) (B0 Lx : Nat) (xs : Nat → Int32) (As : List Value) (M : zM) : Array Value → State → Prop := va_Pc (As.map (zv ad)) (fun U => (zEnv ad B0 Lx xs U U.heap ∧ va_K (dC, dI) zcl (ztys dA) U ∧ va_P (dC, dI) zcl (zw dA ad M) U.heap ∧ va_D (zA B0) (zw dA ad M)) ∧ zEx B0 U U.heap)
theorem zPx_blind {As : List Value} {M : zM} : FrameBlind (zPx dC dI dA ad B0 Lx xs As M) := by
  intro a U g mk q
  obtain ⟨q0, q1, x1, x2, x3, x4, x5, x6, x7, x8⟩ := q
  have hb := zPc_blind (As := As) (M := M) a U g mk ⟨q0, q1⟩
  exact ⟨q0, hb.2, vx_Zq.moved (u := U) (U := U.calling g mk a) (Vm.Alike.refl U.vm) x1, vx_Zq.moved (u := U) (U := U.calling g mk a) (Vm.Alike.refl U.vm) x2, va_Nw.same (u := U) (U := U.calling g mk a) rfl rfl x3, va_Nw.same (u := U) (U := U.calling g mk a) rfl rfl x4, va_Nc.moved (u := U) (U := U.calling g mk a) (Vm.Alike.refl U.vm) x5, va_Nw.same (u := U) (U := U.calling g mk a) rfl rfl x6, va_Nw.same (u := U) (U := U.calling g mk a) rfl rfl x7, va_Nw.same (u := U) (U := U.calling g mk a) rfl rfl x8⟩
theorem zPx_at {As : List Value} {M : zM} {s : State} {H : Heap} {locs : List Loc} (hE : zEnv ad B0 Lx xs s s.heap) (hX : zEx B0 s s.heap) (hw : zWd dC dI dA ad B0 s H M locs) (U : State) (hU : U.heap = H) (hW : s.WarmedH U.vm) : zPx dC dI dA ad B0 Lx xs As M (As.map (zv ad)).toArray U :=
  ⟨rfl, (zPc_at (As := As) hE hw U hU hW).2, hX.next hw.2.2.2 hU hW⟩
def zrx (d : Nat) : Room := { frames := d, cells := 1, slots := 6, locals := 64 * d }
def zXC (dC : Nat → ClassId) (dI : Nat → Nat → Nat) (dA : Nat → ClassId) (ad : Nat → Nat) (B0 : Nat) (M : zM) (E : String) : String → State → State → Prop := vx_X (fun u : zM => u = M) (fun E' u t => E' = E ∧ zB dC dI dA ad B0 u t) (zA B0)
/-- a method of the class that throws -/
theorem mx {d : Nat} {k : zY} {As : List Value} {M : zM} {P ik ic : Nat} {E : String} (hpl : plainName k.1.cls = true) (hc : ∀ v ∈ As, v.category = 1) (hn : As.length ≤ k.2.2.1) (hd8 : 8 ≤ d) (hl : l.stackTraces = false)
    (h : Ev Lx xs d k 0 (zarg As) [] M (fun pc' _ st' M' => pc' = P ∧ st' = [] ∧ M' = M)) (hfit : Bundle.fit E = true) (hk1 : Jvm.Cond.classLink k.1.cls ik E ∈ zT) (hk2 : Jvm.Cond.initialized E ∈ zT) (hat : zat k.1.cls ic E = true) (hE : E = zIob ∨ E = zIse)
    (d0 : decode k.2.1 P = .ok (.new ik, 3)) (d3 : decode k.2.1 (P + 3) = .ok (.dup, 1)) (d4 : decode k.2.1 (P + 4) = .ok (.invokespecial ic, 3)) (d7 : decode k.2.1 (P + 7) = .ok (.athrow, 1)) :
    vx_Met l k.1 (zws k) (zrx d) (zPx dC dI dA ad B0 Lx xs As M) (va_Qi (fun (_ : Int32) (_ : zM) => False) (zB dC dI dA ad B0) (zA B0)) (zXC dC dI dA ad B0 M E) 1 6 (zA B0) := by
  refine vx_ofW (cc := k.2.1) (maxL := k.2.2.1) (ret := k.2.2.2) hpl rfl ?_
  intro p e s m args below meth c s₁ B hml htab hv
  obtain ⟨rfl, ⟨hE0, hK, hP, hD⟩, hX⟩ := hv
  have hts : ∀ w ∈ zT, w.before _ s = true := fun w hw => atoms_spec (ws := zws k) B.pre w (List.mem_cons_of_mem _ hw)
  have hlocks := B.notSynchronized
  rw [lg_entry_eq]
  refine zsound h p e s m _ below meth c _ s.heap [] 0 0 _ _ ⟨B.exec, B.bytes, hml, findClass_of_methodNamed B.named, hts, ⟨Nat.le_refl _, Nat.le_refl _, Nat.zero_le _, Nat.zero_le _⟩, hE0⟩ (zl_entry As hc hn) ⟨hK, hP, hD, va_S.rf⟩ ?_
  intro pc' L' st' M' H' locs' ls' hQ hl' hw'
  obtain ⟨rfl, rfl, rfl⟩ := hQ
  have hcast : (Jvm.Cond.castable E E).before (As.map (zv ad)).toArray s = true := by
    rcases hE with rfl | rfl
    · exact va_Nw.use rfl hX.2.2.1
    · exact va_Nw.use rfl hX.2.2.2.1
  refine vx_throw0 (names := zNm) (A := zA B0) B.exec B.bytes hl (findClass_of_methodNamed B.named) hfit (by decide) (hts _ hk1) (hts _ hk2) (fun w hw => ?_) (fun w hw => ?_) hX.1 hX.2.1 hw'.2.2.2 (hl'.1.1.trans hml.symm) d0 d3 d4 d7 (fun x hx => (htab x hx).elim) ?_ ?_ (Nat.le_refl _) (Nat.le_refl _) hlocks (fun t hvm hsz hkp => ?_) hw'.2.2.2.2.2 (Nat.le_refl _) (Nat.le_refl _)
  · rcases zat_in hat w hw with h1 | h1 | h1 | h1 | h1
    · exact hts w h1
    · rw [h1]; exact hcast
    · rw [h1]; exact va_Nw.use rfl hX.2.2.2.2.2.1
    · rw [h1]; exact va_Nw.use rfl hX.2.2.2.2.2.2.1
    · rw [h1]; exact va_Nw.use rfl hX.2.2.2.2.2.2.2
  · rcases List.mem_cons.mp hw with h1 | h1
    · rw [h1]; exact zT_ot hk1
    · rcases List.mem_cons.mp h1 with h2 | h2
      · rw [h2]; exact zT_ot hk2
      · rcases zat_in hat w h2 with h3 | h3 | h3 | h3 | h3
        · exact zT_ot h3
        · rw [h3]; rfl
        · rw [h3]; rfl
        · rw [h3]; rfl
        · rw [h3]; rfl
  · show 2 + 3 < d; omega
  · show 0 + (13 * (2 + 1) + 42) ≤ 64 * d; omega
  · refine ⟨M', rfl, ⟨rfl, hw'.2.1.kept (fun k q hk => hkp q.1 ((hw'.2.1 k q hk).lt)), hw'.2.2.1⟩, ?_⟩
    exact ⟨Nat.le_trans hw'.2.2.2.1 hsz, fun q h1 h2 => (hkp q (Nat.lt_of_lt_of_le h1 hw'.2.2.2.1)).trans (hw'.2.2.2.2.1 q h1 h2)⟩
def zwsW (k : zY) (hh : List (Nat × Nat × Nat × Nat)) : List Jvm.Cond := Jvm.Cond.codeWith k.1 k.2.1 k.2.2.1 k.2.2.2 hh :: zT
/-- a method of the law, where nothing is thrown -/
theorem mw_n {d : Nat} {k : zY} {As : List Value} {M : zM} {R : Option Int32 → zM → Prop} {hh : List (Nat × Nat × Nat × Nat)} (hpl : plainName k.1.cls = true) (hr : k.2.2.2 = some .int) (hc : ∀ v ∈ As, v.category = 1) (hn : As.length ≤ k.2.2.1) (h : Ct Lx xs d k As M R) : Met l k.1 (zwsW k hh) (zrx d) (zPx dC dI dA ad B0 Lx xs As M) (va_Qi (fun r u => R (some r) u) (zB dC dI dA ad B0) (zA B0)) 1 6 (zA B0) := by
  refine va_MetW (cc := k.2.1) (maxL := k.2.2.1) (ret := k.2.2.2) (hh := hh) hpl rfl ?_
  intro p e s m args below meth c s₁ B hml hv
  obtain ⟨rfl, ⟨hE0, hK, hP, hD⟩, hX⟩ := hv
  have hts : ∀ w ∈ zT, w.before _ s = true := fun w hw => atoms_spec (ws := zwsW k hh) B.pre w (List.mem_cons_of_mem _ hw)
  have hlocks := B.notSynchronized
  rw [lg_entry_eq]
  refine zsound h p e s m _ below meth c _ s.heap [] 0 0 _ _ ⟨B.exec, B.bytes, hml, findClass_of_methodNamed B.named, hts, ⟨Nat.le_refl _, Nat.le_refl _, Nat.zero_le _, Nat.zero_le _⟩, hE0⟩ (zl_entry As hc hn) ⟨hK, hP, hD, va_S.rf⟩ ?_
  intro pc' L' st' M' H' locs' ls' hQ hl' hw'
  obtain ⟨o, he, hR⟩ := hQ
  cases o with
  | none => exact absurd (hr.symm.trans he.2.2) (by simp)
  | some x =>
    obtain ⟨hd', hst, ty', hty', hn'⟩ := he
    subst hst
    refine W.widen (k := 1) (n := 6) (by omega) (by omega) ?_
    exact W.zret B.exec B.bytes (B.returns.trans hty') hn' (fun t ht hW => ⟨⟨x, M', rfl, hR, by rw [ht]; exact hw'.2.1, hw'.2.2.1⟩, hw'.2.2.2.F ht⟩) hw'.2.2.2.2.2 hd'
end
