/- the start -/
theorem zarrK {args : Array Value} {s : State} {ty : FieldType} (h : (Jvm.Cond.arrayClass ty).before args s = true) (hp : ty = .int ∨ ty = .char ∨ ty = .boolean ∨ ty = .long) : ∃ cA : ClassId, ArrOfT s cA ty ∧ va_RA s cA ty := by
  obtain ⟨cA, kA, comp, h1, h2, h3⟩ := Cond.arrayClass_spec h
  exact ⟨cA, fun n z => ⟨fun k h => (by cases h), kA, h2, comp, h3⟩, by rcases hp with rfl | rfl | rfl | rfl <;> exact h1⟩
theorem zK_of {args : Array Value} {s : State} (hts : ∀ w ∈ zT, w.before args s = true) : ∃ (dC : Nat → ClassId) (dI : Nat → Nat → Nat) (dA : Nat → ClassId), va_K (dC, dI) zcl (ztys dA) s := by
  obtain ⟨c0, i0, k0⟩ := u_known hts zy_K (hts (.instantiable "KeptItems" 7) (zin 20 (by decide +kernel) (by decide +kernel)))
  obtain ⟨c1, i1, k1⟩ := u_known hts zy_R (hts (.instantiable "KeptItems$Reading" 4) (zin 28 (by decide +kernel) (by decide +kernel)))
  obtain ⟨c2, i2, k2⟩ := u_known hts zy_S (hts (.instantiable "KeptItems$Source" 5) (zin 34 (by decide +kernel) (by decide +kernel)))
  obtain ⟨c3, i3, k3⟩ := u_known hts zy_T (hts (.instantiable "KeptItems$Tree" 6) (zin 65 (by decide +kernel) (by decide +kernel)))
  obtain ⟨c4, i4, k4⟩ := u_known hts zy_M (hts (.instantiable "KeptItemsModel" 43) (zin 526 (by decide +kernel) (by decide +kernel)))
  obtain ⟨a0, p0⟩ := zarrK (hts _ wa_int) (by simp)
  obtain ⟨a1, p1⟩ := zarrK (hts _ wa_char) (by simp)
  obtain ⟨a2, p2⟩ := zarrK (hts _ wa_boolean) (by simp)
  obtain ⟨a3, p3⟩ := zarrK (hts _ wa_long) (by simp)
  refine ⟨fun c => match c with | 0 => c0 | 1 => c1 | 2 => c2 | 3 => c3 | _ => c4, fun c => match c with | 0 => i0 | 1 => i1 | 2 => i2 | 3 => i3 | _ => i4, fun t => match t with | 0 => a0 | 1 => a1 | 2 => a2 | _ => a3, fun c q hq => ?_, fun k q hk => ?_⟩
  · have hc : c < 5 := (List.getElem?_eq_some_iff.mp hq).1
    match c, hc, hq with
    | 0, _, hq => cases hq; exact k0
    | 1, _, hq => cases hq; exact k1
    | 2, _, hq => cases hq; exact k2
    | 3, _, hq => cases hq; exact k3
    | 4, _, hq => cases hq; exact k4
    | c + 5, hc, _ => exact absurd hc (by omega)
  · have hc : k < 4 := (List.getElem?_eq_some_iff.mp hk).1
    match k, hc, hk with
    | 0, _, hk => cases hk; exact p0
    | 1, _, hk => cases hk; exact p1
    | 2, _, hk => cases hk; exact p2
    | 3, _, hk => cases hk; exact p3
    | k + 4, hc, _ => exact absurd hc (by omega)
set_option maxRecDepth 100000 in
theorem zenv_of {args : Array Value} {s : State} {b L : Nat} {xs : Nat → Int32} (hts : ∀ w ∈ lw_tbl, w.before args s = true) (hX : va_X b L xs s s.heap) (hbl : b < s.heap.size) (hgv : (Jvm.Cond.and given_1 narrow_1).before args s = true) : (∃ a1 a2 : Nat, ∀ ad : Nat → Nat, ad 1000 = b → ad 1001 = a1 → ad 1002 = a2 → zEnv ad s.heap.size L xs s s.heap) ∧ zEx s.heap.size s s.heap := by
  have hs := flat_of_before _ hgv
  have hA : ∀ a : Nat, a < s.heap.size → ¬ zA s.heap.size a := fun a ha => Nat.not_le_of_lt ha
  constructor
  · obtain ⟨adK, adV, h1, h2⟩ := vk_Sof (args := args) (s := s) (N := 1) (tm := fun _ => .string "KeptItems$Source" 67) (len := [zsn]) (byt := [zsb]) (A := zA s.heap.size) (fun i hi => by rcases (show i = 0 by omega) with rfl; decide) (fun i hi => hs _ (by decide +kernel)) (fun i hi => hs _ (by decide +kernel)) (fun i hi => hs _ (by decide +kernel)) (fun i hi => by rcases (show i = 0 by omega) with rfl; exact hs _ (by decide +kernel)) (fun i hi j hj => by
      rcases (show i = 0 by omega) with rfl
      have hj : j < 10 := hj
      rcases (show j = 0 ∨ j = 1 ∨ j = 2 ∨ j = 3 ∨ j = 4 ∨ j = 5 ∨ j = 6 ∨ j = 7 ∨ j = 8 ∨ j = 9 by omega) with rfl | rfl | rfl | rfl | rfl | rfl | rfl | rfl | rfl | rfl <;> exact hs _ (by decide +kernel)) (fun i j hi hj hij => by omega) hA
    refine ⟨adK 0, adV 0, fun ad e0 e1 e2 => ?_⟩
    refine ⟨Nat.le_refl _, by rw [e0]; exact hbl, by rw [e0]; exact hX, ⟨fun i hi => ?_, fun i j hi hj _ => by omega⟩, ?_, ?_⟩
    · rcases (show i = 0 by omega) with rfl
      show _ ∧ _
      rw [e1, e2]
      exact h1.1 0 hi
    · rw [e1]
      have h3 := h2 0 (by decide)
      exact vk_R.of (A := args) (hts (.stringRef "KeptItems$Source" 67 "=;+-*(){},") (List.mem_append_right _ (List.mem_of_getElem? (i := 319) (by decide +kernel)))) h3
    · exact va_Zof (args := args) (hts (.laysStatic "java/lang/String" "COMPACT_STRINGS" "Z") (List.mem_append_right _ (List.mem_of_getElem? (i := 333) (by decide +kernel)))) (hts (.initialized "java/lang/String") (List.mem_append_right _ (List.mem_of_getElem? (i := 12) (by decide +kernel)))) (va_eqt (hs (.eq (.static "java/lang/String" "COMPACT_STRINGS" "Z") (.int 1)) (by decide +kernel))) hA
  · refine ⟨vx_Zqof (args := args) (hts _ (List.mem_append_right _ (List.mem_of_getElem? (i := 233) (by decide +kernel)))) (hts _ (List.mem_append_right _ (List.mem_of_getElem? (i := 6) (by decide +kernel)))) (hs _ (by decide +kernel)) hA, vx_Zqof (args := args) (hts _ (List.mem_append_right _ (List.mem_of_getElem? (i := 235) (by decide +kernel)))) (hts _ (List.mem_append_right _ (List.mem_of_getElem? (i := 6) (by decide +kernel)))) (hs _ (by decide +kernel)) hA, va_Nw.of rfl (hts (.castable zIob zIob) (List.mem_append_right _ (List.mem_of_getElem? (i := 208) (by decide +kernel)))), va_Nw.of rfl (hts (.castable zIse zIse) (List.mem_append_right _ (List.mem_of_getElem? (i := 270) (by decide +kernel)))), va_Nc.of (hs (.not (.castable zIse zIob)) (by decide +kernel)), va_Nw.of rfl (hts zDr (List.mem_append_right _ (List.mem_of_getElem? (i := 209) (by decide +kernel)))), va_Nw.of rfl (hts zDe (List.mem_append_right _ (List.mem_of_getElem? (i := 211) (by decide +kernel)))), va_Nw.of rfl (hts zDt (List.mem_append_right _ (List.mem_of_getElem? (i := 213) (by decide +kernel))))⟩
/-- both objects as they are made -/
def zM0 : zM := (fun a i => if a = 25 ∧ i = 29 then -1 else 0, zP0 2 13, 0)
theorem zInv0 : zInv zM0 0 := by
  have h0 : ∀ a i, ¬ (a = 25 ∧ i = 29) → zM0.1 a i = nI 0 := fun a i h => if_neg h
  refine ⟨2, 13, Or.inl ⟨rfl, rfl⟩, rfl, 0, fun _ => 0, [], 0, fun _ => 0, 0, 0, 0, (0, false), fun _ => 0, fun _ => 0, ⟨h0 _ _ (by omega), by omega, fun i hi => by omega⟩, ⟨h0 _ _ (by omega), fun k q hq => by simp at hq⟩, ⟨by omega, Nat.le_refl _, fun k q hq => by simp at hq, fun k j q q' _ hq => by simp at hq⟩, ⟨h0 _ _ (by omega), by omega, fun i hi => by omega⟩, ⟨h0 _ _ (by omega), fun k q hq => by simp at hq⟩, ⟨h0 _ _ (by omega), h0 _ _ (by omega), by omega, fun i hi => by omega⟩, ⟨h0 _ _ (by omega), h0 _ _ (by omega), by omega⟩, fun k hk => by omega, ⟨h0 _ _ (by omega), h0 _ _ (by omega), by show 0 < 2 ^ 31; omega, (show zM0.1 25 29 = -1 from rfl)⟩, (h0 _ _ (by omega)).trans (h0 _ _ (by omega)).symm, ⟨h0 _ _ (by omega), h0 _ _ (by omega), by omega⟩, ⟨fun k hk => by omega, fun i j _ hj => by omega⟩, h0 _ _ (by omega), by omega⟩
/-- where the cells lie -/
def zad (a0 : Nat) (u : Nat → Nat) (a1 : Nat) (v : Nat → Nat) (a2 b s1 s2 : Nat) : Nat → Nat := fun p => if p = 0 then a0 else if p < 25 then u (p - 1) else if p = 25 then a1 else if p < 53 then v (p - 26) else if p = 53 then a2 else if p = 1000 then b else if p = 1001 then s1 else s2
set_option maxRecDepth 100000 in
set_option maxHeartbeats 4000000 in
theorem zw0_0 (dA : Nat → ClassId) (a0 : Nat) (u : Nat → Nat) (a1 : Nat) (v : Nat → Nat) (a2 b s1 s2 : Nat) : some (zad a0 u a1 v a2 b s1 s2 0, zE dA (zad a0 u a1 v a2 b s1 s2) zM0 0 (.inr 0)) = (cK dA a0 u ++ (cM dA a1 v ++ [(a2, .inl (dA 3, 1, .inr (.inl (fun j => if j = 0 then 0 else 0))))]) : va_W)[0]? := rfl
set_option maxRecDepth 100000 in
set_option maxHeartbeats 4000000 in
theorem zw0_1 (dA : Nat → ClassId) (a0 : Nat) (u : Nat → Nat) (a1 : Nat) (v : Nat → Nat) (a2 b s1 s2 : Nat) : some (zad a0 u a1 v a2 b s1 s2 1, zE dA (zad a0 u a1 v a2 b s1 s2) zM0 1 (.inl (1, 40))) = (cK dA a0 u ++ (cM dA a1 v ++ [(a2, .inl (dA 3, 1, .inr (.inl (fun j => if j = 0 then 0 else 0))))]) : va_W)[1]? := rfl
set_option maxRecDepth 100000 in
set_option maxHeartbeats 4000000 in
theorem zw0_2 (dA : Nat → ClassId) (a0 : Nat) (u : Nat → Nat) (a1 : Nat) (v : Nat → Nat) (a2 b s1 s2 : Nat) : some (zad a0 u a1 v a2 b s1 s2 2, zE dA (zad a0 u a1 v a2 b s1 s2) zM0 2 (.inr 1)) = (cK dA a0 u ++ (cM dA a1 v ++ [(a2, .inl (dA 3, 1, .inr (.inl (fun j => if j = 0 then 0 else 0))))]) : va_W)[2]? := rfl
set_option maxRecDepth 100000 in
set_option maxHeartbeats 4000000 in
theorem zw0_3 (dA : Nat → ClassId) (a0 : Nat) (u : Nat → Nat) (a1 : Nat) (v : Nat → Nat) (a2 b s1 s2 : Nat) : some (zad a0 u a1 v a2 b s1 s2 3, zE dA (zad a0 u a1 v a2 b s1 s2) zM0 3 (.inr 2)) = (cK dA a0 u ++ (cM dA a1 v ++ [(a2, .inl (dA 3, 1, .inr (.inl (fun j => if j = 0 then 0 else 0))))]) : va_W)[3]? := rfl
set_option maxRecDepth 100000 in
set_option maxHeartbeats 4000000 in
theorem zw0_4 (dA : Nat → ClassId) (a0 : Nat) (u : Nat → Nat) (a1 : Nat) (v : Nat → Nat) (a2 b s1 s2 : Nat) : some (zad a0 u a1 v a2 b s1 s2 4, zE dA (zad a0 u a1 v a2 b s1 s2) zM0 4 (.inr 3)) = (cK dA a0 u ++ (cM dA a1 v ++ [(a2, .inl (dA 3, 1, .inr (.inl (fun j => if j = 0 then 0 else 0))))]) : va_W)[4]? := rfl
set_option maxRecDepth 100000 in
set_option maxHeartbeats 4000000 in
theorem zw0_5 (dA : Nat → ClassId) (a0 : Nat) (u : Nat → Nat) (a1 : Nat) (v : Nat → Nat) (a2 b s1 s2 : Nat) : some (zad a0 u a1 v a2 b s1 s2 5, zE dA (zad a0 u a1 v a2 b s1 s2) zM0 5 (.inl (1, 160))) = (cK dA a0 u ++ (cM dA a1 v ++ [(a2, .inl (dA 3, 1, .inr (.inl (fun j => if j = 0 then 0 else 0))))]) : va_W)[5]? := rfl
set_option maxRecDepth 100000 in
set_option maxHeartbeats 4000000 in
theorem zw0_6 (dA : Nat → ClassId) (a0 : Nat) (u : Nat → Nat) (a1 : Nat) (v : Nat → Nat) (a2 b s1 s2 : Nat) : some (zad a0 u a1 v a2 b s1 s2 6, zE dA (zad a0 u a1 v a2 b s1 s2) zM0 6 (.inl (0, 160))) = (cK dA a0 u ++ (cM dA a1 v ++ [(a2, .inl (dA 3, 1, .inr (.inl (fun j => if j = 0 then 0 else 0))))]) : va_W)[6]? := rfl
set_option maxRecDepth 100000 in
set_option maxHeartbeats 4000000 in
theorem zw0_7 (dA : Nat → ClassId) (a0 : Nat) (u : Nat → Nat) (a1 : Nat) (v : Nat → Nat) (a2 b s1 s2 : Nat) : some (zad a0 u a1 v a2 b s1 s2 7, zE dA (zad a0 u a1 v a2 b s1 s2) zM0 7 (.inl (1, 160))) = (cK dA a0 u ++ (cM dA a1 v ++ [(a2, .inl (dA 3, 1, .inr (.inl (fun j => if j = 0 then 0 else 0))))]) : va_W)[7]? := rfl
set_option maxRecDepth 100000 in
set_option maxHeartbeats 4000000 in
theorem zw0_8 (dA : Nat → ClassId) (a0 : Nat) (u : Nat → Nat) (a1 : Nat) (v : Nat → Nat) (a2 b s1 s2 : Nat) : some (zad a0 u a1 v a2 b s1 s2 8, zE dA (zad a0 u a1 v a2 b s1 s2) zM0 8 (.inl (0, 160))) = (cK dA a0 u ++ (cM dA a1 v ++ [(a2, .inl (dA 3, 1, .inr (.inl (fun j => if j = 0 then 0 else 0))))]) : va_W)[8]? := rfl
set_option maxRecDepth 100000 in
set_option maxHeartbeats 4000000 in
theorem zw0_9 (dA : Nat → ClassId) (a0 : Nat) (u : Nat → Nat) (a1 : Nat) (v : Nat → Nat) (a2 b s1 s2 : Nat) : some (zad a0 u a1 v a2 b s1 s2 9, zE dA (zad a0 u a1 v a2 b s1 s2) zM0 9 (.inl (0, 160))) = (cK dA a0 u ++ (cM dA a1 v ++ [(a2, .inl (dA 3, 1, .inr (.inl (fun j => if j = 0 then 0 else 0))))]) : va_W)[9]? := rfl
set_option maxRecDepth 100000 in
set_option maxHeartbeats 4000000 in
theorem zw0_10 (dA : Nat → ClassId) (a0 : Nat) (u : Nat → Nat) (a1 : Nat) (v : Nat → Nat) (a2 b s1 s2 : Nat) : some (zad a0 u a1 v a2 b s1 s2 10, zE dA (zad a0 u a1 v a2 b s1 s2) zM0 10 (.inl (0, 160))) = (cK dA a0 u ++ (cM dA a1 v ++ [(a2, .inl (dA 3, 1, .inr (.inl (fun j => if j = 0 then 0 else 0))))]) : va_W)[10]? := rfl
set_option maxRecDepth 100000 in
set_option maxHeartbeats 4000000 in
theorem zw0_11 (dA : Nat → ClassId) (a0 : Nat) (u : Nat → Nat) (a1 : Nat) (v : Nat → Nat) (a2 b s1 s2 : Nat) : some (zad a0 u a1 v a2 b s1 s2 11, zE dA (zad a0 u a1 v a2 b s1 s2) zM0 11 (.inl (0, 160))) = (cK dA a0 u ++ (cM dA a1 v ++ [(a2, .inl (dA 3, 1, .inr (.inl (fun j => if j = 0 then 0 else 0))))]) : va_W)[11]? := rfl
set_option maxRecDepth 100000 in
set_option maxHeartbeats 4000000 in
theorem zw0_12 (dA : Nat → ClassId) (a0 : Nat) (u : Nat → Nat) (a1 : Nat) (v : Nat → Nat) (a2 b s1 s2 : Nat) : some (zad a0 u a1 v a2 b s1 s2 12, zE dA (zad a0 u a1 v a2 b s1 s2) zM0 12 (.inl (0, 160))) = (cK dA a0 u ++ (cM dA a1 v ++ [(a2, .inl (dA 3, 1, .inr (.inl (fun j => if j = 0 then 0 else 0))))]) : va_W)[12]? := rfl
set_option maxRecDepth 100000 in
set_option maxHeartbeats 4000000 in
theorem zw0_13 (dA : Nat → ClassId) (a0 : Nat) (u : Nat → Nat) (a1 : Nat) (v : Nat → Nat) (a2 b s1 s2 : Nat) : some (zad a0 u a1 v a2 b s1 s2 13, zE dA (zad a0 u a1 v a2 b s1 s2) zM0 13 (.inr 1)) = (cK dA a0 u ++ (cM dA a1 v ++ [(a2, .inl (dA 3, 1, .inr (.inl (fun j => if j = 0 then 0 else 0))))]) : va_W)[13]? := rfl
set_option maxRecDepth 100000 in
set_option maxHeartbeats 4000000 in
theorem zw0_14 (dA : Nat → ClassId) (a0 : Nat) (u : Nat → Nat) (a1 : Nat) (v : Nat → Nat) (a2 b s1 s2 : Nat) : some (zad a0 u a1 v a2 b s1 s2 14, zE dA (zad a0 u a1 v a2 b s1 s2) zM0 14 (.inr 2)) = (cK dA a0 u ++ (cM dA a1 v ++ [(a2, .inl (dA 3, 1, .inr (.inl (fun j => if j = 0 then 0 else 0))))]) : va_W)[14]? := rfl
set_option maxRecDepth 100000 in
set_option maxHeartbeats 4000000 in
theorem zw0_15 (dA : Nat → ClassId) (a0 : Nat) (u : Nat → Nat) (a1 : Nat) (v : Nat → Nat) (a2 b s1 s2 : Nat) : some (zad a0 u a1 v a2 b s1 s2 15, zE dA (zad a0 u a1 v a2 b s1 s2) zM0 15 (.inr 3)) = (cK dA a0 u ++ (cM dA a1 v ++ [(a2, .inl (dA 3, 1, .inr (.inl (fun j => if j = 0 then 0 else 0))))]) : va_W)[15]? := rfl
set_option maxRecDepth 100000 in
set_option maxHeartbeats 4000000 in
theorem zw0_16 (dA : Nat → ClassId) (a0 : Nat) (u : Nat → Nat) (a1 : Nat) (v : Nat → Nat) (a2 b s1 s2 : Nat) : some (zad a0 u a1 v a2 b s1 s2 16, zE dA (zad a0 u a1 v a2 b s1 s2) zM0 16 (.inl (1, 160))) = (cK dA a0 u ++ (cM dA a1 v ++ [(a2, .inl (dA 3, 1, .inr (.inl (fun j => if j = 0 then 0 else 0))))]) : va_W)[16]? := rfl
set_option maxRecDepth 100000 in
set_option maxHeartbeats 4000000 in
theorem zw0_17 (dA : Nat → ClassId) (a0 : Nat) (u : Nat → Nat) (a1 : Nat) (v : Nat → Nat) (a2 b s1 s2 : Nat) : some (zad a0 u a1 v a2 b s1 s2 17, zE dA (zad a0 u a1 v a2 b s1 s2) zM0 17 (.inl (0, 160))) = (cK dA a0 u ++ (cM dA a1 v ++ [(a2, .inl (dA 3, 1, .inr (.inl (fun j => if j = 0 then 0 else 0))))]) : va_W)[17]? := rfl
set_option maxRecDepth 100000 in
set_option maxHeartbeats 4000000 in
theorem zw0_18 (dA : Nat → ClassId) (a0 : Nat) (u : Nat → Nat) (a1 : Nat) (v : Nat → Nat) (a2 b s1 s2 : Nat) : some (zad a0 u a1 v a2 b s1 s2 18, zE dA (zad a0 u a1 v a2 b s1 s2) zM0 18 (.inl (1, 160))) = (cK dA a0 u ++ (cM dA a1 v ++ [(a2, .inl (dA 3, 1, .inr (.inl (fun j => if j = 0 then 0 else 0))))]) : va_W)[18]? := rfl
set_option maxRecDepth 100000 in
set_option maxHeartbeats 4000000 in
theorem zw0_19 (dA : Nat → ClassId) (a0 : Nat) (u : Nat → Nat) (a1 : Nat) (v : Nat → Nat) (a2 b s1 s2 : Nat) : some (zad a0 u a1 v a2 b s1 s2 19, zE dA (zad a0 u a1 v a2 b s1 s2) zM0 19 (.inl (0, 160))) = (cK dA a0 u ++ (cM dA a1 v ++ [(a2, .inl (dA 3, 1, .inr (.inl (fun j => if j = 0 then 0 else 0))))]) : va_W)[19]? := rfl
set_option maxRecDepth 100000 in
set_option maxHeartbeats 4000000 in
theorem zw0_20 (dA : Nat → ClassId) (a0 : Nat) (u : Nat → Nat) (a1 : Nat) (v : Nat → Nat) (a2 b s1 s2 : Nat) : some (zad a0 u a1 v a2 b s1 s2 20, zE dA (zad a0 u a1 v a2 b s1 s2) zM0 20 (.inl (0, 160))) = (cK dA a0 u ++ (cM dA a1 v ++ [(a2, .inl (dA 3, 1, .inr (.inl (fun j => if j = 0 then 0 else 0))))]) : va_W)[20]? := rfl
set_option maxRecDepth 100000 in
set_option maxHeartbeats 4000000 in
theorem zw0_21 (dA : Nat → ClassId) (a0 : Nat) (u : Nat → Nat) (a1 : Nat) (v : Nat → Nat) (a2 b s1 s2 : Nat) : some (zad a0 u a1 v a2 b s1 s2 21, zE dA (zad a0 u a1 v a2 b s1 s2) zM0 21 (.inl (0, 160))) = (cK dA a0 u ++ (cM dA a1 v ++ [(a2, .inl (dA 3, 1, .inr (.inl (fun j => if j = 0 then 0 else 0))))]) : va_W)[21]? := rfl
set_option maxRecDepth 100000 in
set_option maxHeartbeats 4000000 in
theorem zw0_22 (dA : Nat → ClassId) (a0 : Nat) (u : Nat → Nat) (a1 : Nat) (v : Nat → Nat) (a2 b s1 s2 : Nat) : some (zad a0 u a1 v a2 b s1 s2 22, zE dA (zad a0 u a1 v a2 b s1 s2) zM0 22 (.inl (0, 160))) = (cK dA a0 u ++ (cM dA a1 v ++ [(a2, .inl (dA 3, 1, .inr (.inl (fun j => if j = 0 then 0 else 0))))]) : va_W)[22]? := rfl
set_option maxRecDepth 100000 in
set_option maxHeartbeats 4000000 in
theorem zw0_23 (dA : Nat → ClassId) (a0 : Nat) (u : Nat → Nat) (a1 : Nat) (v : Nat → Nat) (a2 b s1 s2 : Nat) : some (zad a0 u a1 v a2 b s1 s2 23, zE dA (zad a0 u a1 v a2 b s1 s2) zM0 23 (.inl (0, 160))) = (cK dA a0 u ++ (cM dA a1 v ++ [(a2, .inl (dA 3, 1, .inr (.inl (fun j => if j = 0 then 0 else 0))))]) : va_W)[23]? := rfl
set_option maxRecDepth 100000 in
set_option maxHeartbeats 4000000 in
theorem zw0_24 (dA : Nat → ClassId) (a0 : Nat) (u : Nat → Nat) (a1 : Nat) (v : Nat → Nat) (a2 b s1 s2 : Nat) : some (zad a0 u a1 v a2 b s1 s2 24, zE dA (zad a0 u a1 v a2 b s1 s2) zM0 24 (.inl (0, 160))) = (cK dA a0 u ++ (cM dA a1 v ++ [(a2, .inl (dA 3, 1, .inr (.inl (fun j => if j = 0 then 0 else 0))))]) : va_W)[24]? := rfl
set_option maxRecDepth 100000 in
set_option maxHeartbeats 4000000 in
theorem zw0_25 (dA : Nat → ClassId) (a0 : Nat) (u : Nat → Nat) (a1 : Nat) (v : Nat → Nat) (a2 b s1 s2 : Nat) : some (zad a0 u a1 v a2 b s1 s2 25, zE dA (zad a0 u a1 v a2 b s1 s2) zM0 25 (.inr 4)) = (cK dA a0 u ++ (cM dA a1 v ++ [(a2, .inl (dA 3, 1, .inr (.inl (fun j => if j = 0 then 0 else 0))))]) : va_W)[25]? := rfl
set_option maxRecDepth 100000 in
set_option maxHeartbeats 4000000 in
theorem zw0_26 (dA : Nat → ClassId) (a0 : Nat) (u : Nat → Nat) (a1 : Nat) (v : Nat → Nat) (a2 b s1 s2 : Nat) : some (zad a0 u a1 v a2 b s1 s2 26, zE dA (zad a0 u a1 v a2 b s1 s2) zM0 26 (.inl (1, 160))) = (cK dA a0 u ++ (cM dA a1 v ++ [(a2, .inl (dA 3, 1, .inr (.inl (fun j => if j = 0 then 0 else 0))))]) : va_W)[26]? := rfl
set_option maxRecDepth 100000 in
set_option maxHeartbeats 4000000 in
theorem zw0_27 (dA : Nat → ClassId) (a0 : Nat) (u : Nat → Nat) (a1 : Nat) (v : Nat → Nat) (a2 b s1 s2 : Nat) : some (zad a0 u a1 v a2 b s1 s2 27, zE dA (zad a0 u a1 v a2 b s1 s2) zM0 27 (.inl (1, 40))) = (cK dA a0 u ++ (cM dA a1 v ++ [(a2, .inl (dA 3, 1, .inr (.inl (fun j => if j = 0 then 0 else 0))))]) : va_W)[27]? := rfl
set_option maxRecDepth 100000 in
set_option maxHeartbeats 4000000 in
theorem zw0_28 (dA : Nat → ClassId) (a0 : Nat) (u : Nat → Nat) (a1 : Nat) (v : Nat → Nat) (a2 b s1 s2 : Nat) : some (zad a0 u a1 v a2 b s1 s2 28, zE dA (zad a0 u a1 v a2 b s1 s2) zM0 28 (.inl (0, 160))) = (cK dA a0 u ++ (cM dA a1 v ++ [(a2, .inl (dA 3, 1, .inr (.inl (fun j => if j = 0 then 0 else 0))))]) : va_W)[28]? := rfl
set_option maxRecDepth 100000 in
set_option maxHeartbeats 4000000 in
theorem zw0_29 (dA : Nat → ClassId) (a0 : Nat) (u : Nat → Nat) (a1 : Nat) (v : Nat → Nat) (a2 b s1 s2 : Nat) : some (zad a0 u a1 v a2 b s1 s2 29, zE dA (zad a0 u a1 v a2 b s1 s2) zM0 29 (.inl (0, 160))) = (cK dA a0 u ++ (cM dA a1 v ++ [(a2, .inl (dA 3, 1, .inr (.inl (fun j => if j = 0 then 0 else 0))))]) : va_W)[29]? := rfl
set_option maxRecDepth 100000 in
set_option maxHeartbeats 4000000 in
theorem zw0_30 (dA : Nat → ClassId) (a0 : Nat) (u : Nat → Nat) (a1 : Nat) (v : Nat → Nat) (a2 b s1 s2 : Nat) : some (zad a0 u a1 v a2 b s1 s2 30, zE dA (zad a0 u a1 v a2 b s1 s2) zM0 30 (.inl (0, 160))) = (cK dA a0 u ++ (cM dA a1 v ++ [(a2, .inl (dA 3, 1, .inr (.inl (fun j => if j = 0 then 0 else 0))))]) : va_W)[30]? := rfl
set_option maxRecDepth 100000 in
set_option maxHeartbeats 4000000 in
theorem zw0_31 (dA : Nat → ClassId) (a0 : Nat) (u : Nat → Nat) (a1 : Nat) (v : Nat → Nat) (a2 b s1 s2 : Nat) : some (zad a0 u a1 v a2 b s1 s2 31, zE dA (zad a0 u a1 v a2 b s1 s2) zM0 31 (.inl (0, 160))) = (cK dA a0 u ++ (cM dA a1 v ++ [(a2, .inl (dA 3, 1, .inr (.inl (fun j => if j = 0 then 0 else 0))))]) : va_W)[31]? := rfl
set_option maxRecDepth 100000 in
set_option maxHeartbeats 4000000 in
theorem zw0_32 (dA : Nat → ClassId) (a0 : Nat) (u : Nat → Nat) (a1 : Nat) (v : Nat → Nat) (a2 b s1 s2 : Nat) : some (zad a0 u a1 v a2 b s1 s2 32, zE dA (zad a0 u a1 v a2 b s1 s2) zM0 32 (.inl (0, 160))) = (cK dA a0 u ++ (cM dA a1 v ++ [(a2, .inl (dA 3, 1, .inr (.inl (fun j => if j = 0 then 0 else 0))))]) : va_W)[32]? := rfl
set_option maxRecDepth 100000 in
set_option maxHeartbeats 4000000 in
theorem zw0_33 (dA : Nat → ClassId) (a0 : Nat) (u : Nat → Nat) (a1 : Nat) (v : Nat → Nat) (a2 b s1 s2 : Nat) : some (zad a0 u a1 v a2 b s1 s2 33, zE dA (zad a0 u a1 v a2 b s1 s2) zM0 33 (.inl (0, 160))) = (cK dA a0 u ++ (cM dA a1 v ++ [(a2, .inl (dA 3, 1, .inr (.inl (fun j => if j = 0 then 0 else 0))))]) : va_W)[33]? := rfl
set_option maxRecDepth 100000 in
set_option maxHeartbeats 4000000 in
theorem zw0_34 (dA : Nat → ClassId) (a0 : Nat) (u : Nat → Nat) (a1 : Nat) (v : Nat → Nat) (a2 b s1 s2 : Nat) : some (zad a0 u a1 v a2 b s1 s2 34, zE dA (zad a0 u a1 v a2 b s1 s2) zM0 34 (.inl (0, 160))) = (cK dA a0 u ++ (cM dA a1 v ++ [(a2, .inl (dA 3, 1, .inr (.inl (fun j => if j = 0 then 0 else 0))))]) : va_W)[34]? := rfl
set_option maxRecDepth 100000 in
set_option maxHeartbeats 4000000 in
theorem zw0_35 (dA : Nat → ClassId) (a0 : Nat) (u : Nat → Nat) (a1 : Nat) (v : Nat → Nat) (a2 b s1 s2 : Nat) : some (zad a0 u a1 v a2 b s1 s2 35, zE dA (zad a0 u a1 v a2 b s1 s2) zM0 35 (.inl (0, 160))) = (cK dA a0 u ++ (cM dA a1 v ++ [(a2, .inl (dA 3, 1, .inr (.inl (fun j => if j = 0 then 0 else 0))))]) : va_W)[35]? := rfl
set_option maxRecDepth 100000 in
set_option maxHeartbeats 4000000 in
theorem zw0_36 (dA : Nat → ClassId) (a0 : Nat) (u : Nat → Nat) (a1 : Nat) (v : Nat → Nat) (a2 b s1 s2 : Nat) : some (zad a0 u a1 v a2 b s1 s2 36, zE dA (zad a0 u a1 v a2 b s1 s2) zM0 36 (.inl (0, 160))) = (cK dA a0 u ++ (cM dA a1 v ++ [(a2, .inl (dA 3, 1, .inr (.inl (fun j => if j = 0 then 0 else 0))))]) : va_W)[36]? := rfl
set_option maxRecDepth 100000 in
set_option maxHeartbeats 4000000 in
theorem zw0_37 (dA : Nat → ClassId) (a0 : Nat) (u : Nat → Nat) (a1 : Nat) (v : Nat → Nat) (a2 b s1 s2 : Nat) : some (zad a0 u a1 v a2 b s1 s2 37, zE dA (zad a0 u a1 v a2 b s1 s2) zM0 37 (.inl (0, 160))) = (cK dA a0 u ++ (cM dA a1 v ++ [(a2, .inl (dA 3, 1, .inr (.inl (fun j => if j = 0 then 0 else 0))))]) : va_W)[37]? := rfl
set_option maxRecDepth 100000 in
set_option maxHeartbeats 4000000 in
theorem zw0_38 (dA : Nat → ClassId) (a0 : Nat) (u : Nat → Nat) (a1 : Nat) (v : Nat → Nat) (a2 b s1 s2 : Nat) : some (zad a0 u a1 v a2 b s1 s2 38, zE dA (zad a0 u a1 v a2 b s1 s2) zM0 38 (.inl (2, 160))) = (cK dA a0 u ++ (cM dA a1 v ++ [(a2, .inl (dA 3, 1, .inr (.inl (fun j => if j = 0 then 0 else 0))))]) : va_W)[38]? := rfl
set_option maxRecDepth 100000 in
set_option maxHeartbeats 4000000 in
theorem zw0_39 (dA : Nat → ClassId) (a0 : Nat) (u : Nat → Nat) (a1 : Nat) (v : Nat → Nat) (a2 b s1 s2 : Nat) : some (zad a0 u a1 v a2 b s1 s2 39, zE dA (zad a0 u a1 v a2 b s1 s2) zM0 39 (.inl (2, 160))) = (cK dA a0 u ++ (cM dA a1 v ++ [(a2, .inl (dA 3, 1, .inr (.inl (fun j => if j = 0 then 0 else 0))))]) : va_W)[39]? := rfl
set_option maxRecDepth 100000 in
set_option maxHeartbeats 4000000 in
theorem zw0_40 (dA : Nat → ClassId) (a0 : Nat) (u : Nat → Nat) (a1 : Nat) (v : Nat → Nat) (a2 b s1 s2 : Nat) : some (zad a0 u a1 v a2 b s1 s2 40, zE dA (zad a0 u a1 v a2 b s1 s2) zM0 40 (.inl (0, 160))) = (cK dA a0 u ++ (cM dA a1 v ++ [(a2, .inl (dA 3, 1, .inr (.inl (fun j => if j = 0 then 0 else 0))))]) : va_W)[40]? := rfl
set_option maxRecDepth 100000 in
set_option maxHeartbeats 4000000 in
theorem zw0_41 (dA : Nat → ClassId) (a0 : Nat) (u : Nat → Nat) (a1 : Nat) (v : Nat → Nat) (a2 b s1 s2 : Nat) : some (zad a0 u a1 v a2 b s1 s2 41, zE dA (zad a0 u a1 v a2 b s1 s2) zM0 41 (.inl (0, 160))) = (cK dA a0 u ++ (cM dA a1 v ++ [(a2, .inl (dA 3, 1, .inr (.inl (fun j => if j = 0 then 0 else 0))))]) : va_W)[41]? := rfl
set_option maxRecDepth 100000 in
set_option maxHeartbeats 4000000 in
theorem zw0_42 (dA : Nat → ClassId) (a0 : Nat) (u : Nat → Nat) (a1 : Nat) (v : Nat → Nat) (a2 b s1 s2 : Nat) : some (zad a0 u a1 v a2 b s1 s2 42, zE dA (zad a0 u a1 v a2 b s1 s2) zM0 42 (.inl (0, 160))) = (cK dA a0 u ++ (cM dA a1 v ++ [(a2, .inl (dA 3, 1, .inr (.inl (fun j => if j = 0 then 0 else 0))))]) : va_W)[42]? := rfl
set_option maxRecDepth 100000 in
set_option maxHeartbeats 4000000 in
theorem zw0_43 (dA : Nat → ClassId) (a0 : Nat) (u : Nat → Nat) (a1 : Nat) (v : Nat → Nat) (a2 b s1 s2 : Nat) : some (zad a0 u a1 v a2 b s1 s2 43, zE dA (zad a0 u a1 v a2 b s1 s2) zM0 43 (.inl (0, 160))) = (cK dA a0 u ++ (cM dA a1 v ++ [(a2, .inl (dA 3, 1, .inr (.inl (fun j => if j = 0 then 0 else 0))))]) : va_W)[43]? := rfl
set_option maxRecDepth 100000 in
set_option maxHeartbeats 4000000 in
theorem zw0_44 (dA : Nat → ClassId) (a0 : Nat) (u : Nat → Nat) (a1 : Nat) (v : Nat → Nat) (a2 b s1 s2 : Nat) : some (zad a0 u a1 v a2 b s1 s2 44, zE dA (zad a0 u a1 v a2 b s1 s2) zM0 44 (.inl (0, 160))) = (cK dA a0 u ++ (cM dA a1 v ++ [(a2, .inl (dA 3, 1, .inr (.inl (fun j => if j = 0 then 0 else 0))))]) : va_W)[44]? := rfl
set_option maxRecDepth 100000 in
set_option maxHeartbeats 4000000 in
theorem zw0_45 (dA : Nat → ClassId) (a0 : Nat) (u : Nat → Nat) (a1 : Nat) (v : Nat → Nat) (a2 b s1 s2 : Nat) : some (zad a0 u a1 v a2 b s1 s2 45, zE dA (zad a0 u a1 v a2 b s1 s2) zM0 45 (.inl (0, 13))) = (cK dA a0 u ++ (cM dA a1 v ++ [(a2, .inl (dA 3, 1, .inr (.inl (fun j => if j = 0 then 0 else 0))))]) : va_W)[45]? := rfl
set_option maxRecDepth 100000 in
set_option maxHeartbeats 4000000 in
theorem zw0_46 (dA : Nat → ClassId) (a0 : Nat) (u : Nat → Nat) (a1 : Nat) (v : Nat → Nat) (a2 b s1 s2 : Nat) : some (zad a0 u a1 v a2 b s1 s2 46, zE dA (zad a0 u a1 v a2 b s1 s2) zM0 46 (.inl (0, 13))) = (cK dA a0 u ++ (cM dA a1 v ++ [(a2, .inl (dA 3, 1, .inr (.inl (fun j => if j = 0 then 0 else 0))))]) : va_W)[46]? := rfl
set_option maxRecDepth 100000 in
set_option maxHeartbeats 4000000 in
theorem zw0_47 (dA : Nat → ClassId) (a0 : Nat) (u : Nat → Nat) (a1 : Nat) (v : Nat → Nat) (a2 b s1 s2 : Nat) : some (zad a0 u a1 v a2 b s1 s2 47, zE dA (zad a0 u a1 v a2 b s1 s2) zM0 47 (.inl (0, 16))) = (cK dA a0 u ++ (cM dA a1 v ++ [(a2, .inl (dA 3, 1, .inr (.inl (fun j => if j = 0 then 0 else 0))))]) : va_W)[47]? := rfl
set_option maxRecDepth 100000 in
set_option maxHeartbeats 4000000 in
theorem zw0_48 (dA : Nat → ClassId) (a0 : Nat) (u : Nat → Nat) (a1 : Nat) (v : Nat → Nat) (a2 b s1 s2 : Nat) : some (zad a0 u a1 v a2 b s1 s2 48, zE dA (zad a0 u a1 v a2 b s1 s2) zM0 48 (.inl (0, 16))) = (cK dA a0 u ++ (cM dA a1 v ++ [(a2, .inl (dA 3, 1, .inr (.inl (fun j => if j = 0 then 0 else 0))))]) : va_W)[48]? := rfl
set_option maxRecDepth 100000 in
set_option maxHeartbeats 4000000 in
theorem zw0_49 (dA : Nat → ClassId) (a0 : Nat) (u : Nat → Nat) (a1 : Nat) (v : Nat → Nat) (a2 b s1 s2 : Nat) : some (zad a0 u a1 v a2 b s1 s2 49, zE dA (zad a0 u a1 v a2 b s1 s2) zM0 49 (.inl (0, 16))) = (cK dA a0 u ++ (cM dA a1 v ++ [(a2, .inl (dA 3, 1, .inr (.inl (fun j => if j = 0 then 0 else 0))))]) : va_W)[49]? := rfl
set_option maxRecDepth 100000 in
set_option maxHeartbeats 4000000 in
theorem zw0_50 (dA : Nat → ClassId) (a0 : Nat) (u : Nat → Nat) (a1 : Nat) (v : Nat → Nat) (a2 b s1 s2 : Nat) : some (zad a0 u a1 v a2 b s1 s2 50, zE dA (zad a0 u a1 v a2 b s1 s2) zM0 50 (.inl (0, 16))) = (cK dA a0 u ++ (cM dA a1 v ++ [(a2, .inl (dA 3, 1, .inr (.inl (fun j => if j = 0 then 0 else 0))))]) : va_W)[50]? := rfl
set_option maxRecDepth 100000 in
set_option maxHeartbeats 4000000 in
theorem zw0_51 (dA : Nat → ClassId) (a0 : Nat) (u : Nat → Nat) (a1 : Nat) (v : Nat → Nat) (a2 b s1 s2 : Nat) : some (zad a0 u a1 v a2 b s1 s2 51, zE dA (zad a0 u a1 v a2 b s1 s2) zM0 51 (.inl (0, 16))) = (cK dA a0 u ++ (cM dA a1 v ++ [(a2, .inl (dA 3, 1, .inr (.inl (fun j => if j = 0 then 0 else 0))))]) : va_W)[51]? := rfl
set_option maxRecDepth 100000 in
set_option maxHeartbeats 4000000 in
theorem zw0_52 (dA : Nat → ClassId) (a0 : Nat) (u : Nat → Nat) (a1 : Nat) (v : Nat → Nat) (a2 b s1 s2 : Nat) : some (zad a0 u a1 v a2 b s1 s2 52, zE dA (zad a0 u a1 v a2 b s1 s2) zM0 52 (.inl (2, 16))) = (cK dA a0 u ++ (cM dA a1 v ++ [(a2, .inl (dA 3, 1, .inr (.inl (fun j => if j = 0 then 0 else 0))))]) : va_W)[52]? := rfl
set_option maxRecDepth 100000 in
set_option maxHeartbeats 4000000 in
theorem zw0_53 (dA : Nat → ClassId) (a0 : Nat) (u : Nat → Nat) (a1 : Nat) (v : Nat → Nat) (a2 b s1 s2 : Nat) : some (zad a0 u a1 v a2 b s1 s2 53, zE dA (zad a0 u a1 v a2 b s1 s2) zM0 53 (.inl (3, 1))) = (cK dA a0 u ++ (cM dA a1 v ++ [(a2, .inl (dA 3, 1, .inr (.inl (fun j => if j = 0 then 0 else 0))))]) : va_W)[53]? := rfl
theorem zsh_54 : zsh.length = 54 := by decide
theorem zw0 (dA : Nat → ClassId) (a0 : Nat) (u : Nat → Nat) (a1 : Nat) (v : Nat → Nat) (a2 b s1 s2 : Nat) : zw dA (zad a0 u a1 v a2 b s1 s2) zM0 = (cK dA a0 u ++ (cM dA a1 v ++ [(a2, .inl (dA 3, 1, .inr (.inl (fun j => if j = 0 then 0 else 0))))]) : va_W) := by
  apply List.ext_getElem?
  intro q
  match q with
  | 0 => exact (zw_at (q := 0) (sh := .inr 0) rfl).trans (zw0_0 dA a0 u a1 v a2 b s1 s2)
  | 1 => exact (zw_at (q := 1) (sh := .inl (1, 40)) rfl).trans (zw0_1 dA a0 u a1 v a2 b s1 s2)
  | 2 => exact (zw_at (q := 2) (sh := .inr 1) rfl).trans (zw0_2 dA a0 u a1 v a2 b s1 s2)
  | 3 => exact (zw_at (q := 3) (sh := .inr 2) rfl).trans (zw0_3 dA a0 u a1 v a2 b s1 s2)
  | 4 => exact (zw_at (q := 4) (sh := .inr 3) rfl).trans (zw0_4 dA a0 u a1 v a2 b s1 s2)
  | 5 => exact (zw_at (q := 5) (sh := .inl (1, 160)) rfl).trans (zw0_5 dA a0 u a1 v a2 b s1 s2)
  | 6 => exact (zw_at (q := 6) (sh := .inl (0, 160)) rfl).trans (zw0_6 dA a0 u a1 v a2 b s1 s2)
  | 7 => exact (zw_at (q := 7) (sh := .inl (1, 160)) rfl).trans (zw0_7 dA a0 u a1 v a2 b s1 s2)
  | 8 => exact (zw_at (q := 8) (sh := .inl (0, 160)) rfl).trans (zw0_8 dA a0 u a1 v a2 b s1 s2)
  | 9 => exact (zw_at (q := 9) (sh := .inl (0, 160)) rfl).trans (zw0_9 dA a0 u a1 v a2 b s1 s2)
  | 10 => exact (zw_at (q := 10) (sh := .inl (0, 160)) rfl).trans (zw0_10 dA a0 u a1 v a2 b s1 s2)
  | 11 => exact (zw_at (q := 11) (sh := .inl (0, 160)) rfl).trans (zw0_11 dA a0 u a1 v a2 b s1 s2)
  | 12 => exact (zw_at (q := 12) (sh := .inl (0, 160)) rfl).trans (zw0_12 dA a0 u a1 v a2 b s1 s2)
  | 13 => exact (zw_at (q := 13) (sh := .inr 1) rfl).trans (zw0_13 dA a0 u a1 v a2 b s1 s2)
  | 14 => exact (zw_at (q := 14) (sh := .inr 2) rfl).trans (zw0_14 dA a0 u a1 v a2 b s1 s2)
  | 15 => exact (zw_at (q := 15) (sh := .inr 3) rfl).trans (zw0_15 dA a0 u a1 v a2 b s1 s2)
  | 16 => exact (zw_at (q := 16) (sh := .inl (1, 160)) rfl).trans (zw0_16 dA a0 u a1 v a2 b s1 s2)
  | 17 => exact (zw_at (q := 17) (sh := .inl (0, 160)) rfl).trans (zw0_17 dA a0 u a1 v a2 b s1 s2)
  | 18 => exact (zw_at (q := 18) (sh := .inl (1, 160)) rfl).trans (zw0_18 dA a0 u a1 v a2 b s1 s2)
  | 19 => exact (zw_at (q := 19) (sh := .inl (0, 160)) rfl).trans (zw0_19 dA a0 u a1 v a2 b s1 s2)
  | 20 => exact (zw_at (q := 20) (sh := .inl (0, 160)) rfl).trans (zw0_20 dA a0 u a1 v a2 b s1 s2)
  | 21 => exact (zw_at (q := 21) (sh := .inl (0, 160)) rfl).trans (zw0_21 dA a0 u a1 v a2 b s1 s2)
  | 22 => exact (zw_at (q := 22) (sh := .inl (0, 160)) rfl).trans (zw0_22 dA a0 u a1 v a2 b s1 s2)
  | 23 => exact (zw_at (q := 23) (sh := .inl (0, 160)) rfl).trans (zw0_23 dA a0 u a1 v a2 b s1 s2)
  | 24 => exact (zw_at (q := 24) (sh := .inl (0, 160)) rfl).trans (zw0_24 dA a0 u a1 v a2 b s1 s2)
  | 25 => exact (zw_at (q := 25) (sh := .inr 4) rfl).trans (zw0_25 dA a0 u a1 v a2 b s1 s2)
  | 26 => exact (zw_at (q := 26) (sh := .inl (1, 160)) rfl).trans (zw0_26 dA a0 u a1 v a2 b s1 s2)
  | 27 => exact (zw_at (q := 27) (sh := .inl (1, 40)) rfl).trans (zw0_27 dA a0 u a1 v a2 b s1 s2)
  | 28 => exact (zw_at (q := 28) (sh := .inl (0, 160)) rfl).trans (zw0_28 dA a0 u a1 v a2 b s1 s2)
  | 29 => exact (zw_at (q := 29) (sh := .inl (0, 160)) rfl).trans (zw0_29 dA a0 u a1 v a2 b s1 s2)
  | 30 => exact (zw_at (q := 30) (sh := .inl (0, 160)) rfl).trans (zw0_30 dA a0 u a1 v a2 b s1 s2)
  | 31 => exact (zw_at (q := 31) (sh := .inl (0, 160)) rfl).trans (zw0_31 dA a0 u a1 v a2 b s1 s2)
  | 32 => exact (zw_at (q := 32) (sh := .inl (0, 160)) rfl).trans (zw0_32 dA a0 u a1 v a2 b s1 s2)
  | 33 => exact (zw_at (q := 33) (sh := .inl (0, 160)) rfl).trans (zw0_33 dA a0 u a1 v a2 b s1 s2)
  | 34 => exact (zw_at (q := 34) (sh := .inl (0, 160)) rfl).trans (zw0_34 dA a0 u a1 v a2 b s1 s2)
  | 35 => exact (zw_at (q := 35) (sh := .inl (0, 160)) rfl).trans (zw0_35 dA a0 u a1 v a2 b s1 s2)
  | 36 => exact (zw_at (q := 36) (sh := .inl (0, 160)) rfl).trans (zw0_36 dA a0 u a1 v a2 b s1 s2)
  | 37 => exact (zw_at (q := 37) (sh := .inl (0, 160)) rfl).trans (zw0_37 dA a0 u a1 v a2 b s1 s2)
  | 38 => exact (zw_at (q := 38) (sh := .inl (2, 160)) rfl).trans (zw0_38 dA a0 u a1 v a2 b s1 s2)
  | 39 => exact (zw_at (q := 39) (sh := .inl (2, 160)) rfl).trans (zw0_39 dA a0 u a1 v a2 b s1 s2)
  | 40 => exact (zw_at (q := 40) (sh := .inl (0, 160)) rfl).trans (zw0_40 dA a0 u a1 v a2 b s1 s2)
  | 41 => exact (zw_at (q := 41) (sh := .inl (0, 160)) rfl).trans (zw0_41 dA a0 u a1 v a2 b s1 s2)
  | 42 => exact (zw_at (q := 42) (sh := .inl (0, 160)) rfl).trans (zw0_42 dA a0 u a1 v a2 b s1 s2)
  | 43 => exact (zw_at (q := 43) (sh := .inl (0, 160)) rfl).trans (zw0_43 dA a0 u a1 v a2 b s1 s2)
  | 44 => exact (zw_at (q := 44) (sh := .inl (0, 160)) rfl).trans (zw0_44 dA a0 u a1 v a2 b s1 s2)
  | 45 => exact (zw_at (q := 45) (sh := .inl (0, 13)) rfl).trans (zw0_45 dA a0 u a1 v a2 b s1 s2)
  | 46 => exact (zw_at (q := 46) (sh := .inl (0, 13)) rfl).trans (zw0_46 dA a0 u a1 v a2 b s1 s2)
  | 47 => exact (zw_at (q := 47) (sh := .inl (0, 16)) rfl).trans (zw0_47 dA a0 u a1 v a2 b s1 s2)
  | 48 => exact (zw_at (q := 48) (sh := .inl (0, 16)) rfl).trans (zw0_48 dA a0 u a1 v a2 b s1 s2)
  | 49 => exact (zw_at (q := 49) (sh := .inl (0, 16)) rfl).trans (zw0_49 dA a0 u a1 v a2 b s1 s2)
  | 50 => exact (zw_at (q := 50) (sh := .inl (0, 16)) rfl).trans (zw0_50 dA a0 u a1 v a2 b s1 s2)
  | 51 => exact (zw_at (q := 51) (sh := .inl (0, 16)) rfl).trans (zw0_51 dA a0 u a1 v a2 b s1 s2)
  | 52 => exact (zw_at (q := 52) (sh := .inl (2, 16)) rfl).trans (zw0_52 dA a0 u a1 v a2 b s1 s2)
  | 53 => exact (zw_at (q := 53) (sh := .inl (3, 1)) rfl).trans (zw0_53 dA a0 u a1 v a2 b s1 s2)
  | q + 54 =>
    rw [List.getElem?_eq_none (by unfold zw; rw [List.length_mapIdx, zsh_54]; omega), List.getElem?_eq_none (by show 54 ≤ q + 54; omega)]
