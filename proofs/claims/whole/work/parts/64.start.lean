/- the start -/
theorem zarrK {args : Array Value} {s : State} {ty : FieldType} (h : (Jvm.Cond.arrayClass ty).before args s = true) (hp : ty = .int ∨ ty = .char ∨ ty = .boolean ∨ ty = .long) : ∃ cA : ClassId, ArrOfT s cA ty ∧ va_RA s cA ty := by
  obtain ⟨cA, kA, comp, h1, h2, h3⟩ := Cond.arrayClass_spec h
  exact ⟨cA, fun n z => ⟨fun k h => (by cases h), kA, h2, comp, h3⟩, by rcases hp with rfl | rfl | rfl | rfl <;> exact h1⟩
theorem zK_of {args : Array Value} {s : State} (hts : ∀ w ∈ zT, w.before args s = true) : ∃ (dC : Nat → ClassId) (dI : Nat → Nat → Nat) (dA : Nat → ClassId), va_K (dC, dI) zcl (ztys dA) s := by
  obtain ⟨c0, i0, k0⟩ := u_known hts zy_K (hts (.instantiable "KeptItems" 7) (zin 20 (by decide +kernel) (by decide +kernel)))
  obtain ⟨c1, i1, k1⟩ := u_known hts zy_R (hts (.instantiable "KeptItems$Reading" 4) (zin 28 (by decide +kernel) (by decide +kernel)))
  obtain ⟨c2, i2, k2⟩ := u_known hts zy_S (hts (.instantiable "KeptItems$Source" 5) (zin 34 (by decide +kernel) (by decide +kernel)))
  obtain ⟨c3, i3, k3⟩ := u_known hts zy_T (hts (.instantiable "KeptItems$Tree" 6) (zin 65 (by decide +kernel) (by decide +kernel)))
  obtain ⟨c4, i4, k4⟩ := u_known hts zy_M (hts (.instantiable "KeptItemsModel" 43) (zin 526 (by decide +kernel) (by decide +kernel)))
  obtain ⟨a0, p0⟩ := zarrK (hts _ wa_int) (by simp)
  obtain ⟨a1, p1⟩ := zarrK (hts _ wa_char) (by simp)
  obtain ⟨a2, p2⟩ := zarrK (hts _ wa_boolean) (by simp)
  obtain ⟨a3, p3⟩ := zarrK (hts _ wa_long) (by simp)
  refine ⟨fun c => match c with | 0 => c0 | 1 => c1 | 2 => c2 | 3 => c3 | _ => c4, fun c => match c with | 0 => i0 | 1 => i1 | 2 => i2 | 3 => i3 | _ => i4, fun t => match t with | 0 => a0 | 1 => a1 | 2 => a2 | _ => a3, fun c q hq => ?_, fun k q hk => ?_⟩
  · have hc : c < 5 := (List.getElem?_eq_some_iff.mp hq).1
    match c, hc, hq with
    | 0, _, hq => cases hq; exact k0
    | 1, _, hq => cases hq; exact k1
    | 2, _, hq => cases hq; exact k2
    | 3, _, hq => cases hq; exact k3
    | 4, _, hq => cases hq; exact k4
    | c + 5, hc, _ => exact absurd hc (by omega)
  · have hc : k < 4 := (List.getElem?_eq_some_iff.mp hk).1
    match k, hc, hk with
    | 0, _, hk => cases hk; exact p0
    | 1, _, hk => cases hk; exact p1
    | 2, _, hk => cases hk; exact p2
    | 3, _, hk => cases hk; exact p3
    | k + 4, hc, _ => exact absurd hc (by omega)
set_option maxRecDepth 100000 in
theorem zenv_of {args : Array Value} {s : State} {b L : Nat} {xs : Nat → Int32} (hts : ∀ w ∈ lw_tbl, w.before args s = true) (hX : va_X b L xs s s.heap) (hbl : b < s.heap.size) (hgv : (Jvm.Cond.and given_1 narrow_1).before args s = true) : (∃ a1 a2 : Nat, ∀ ad : Nat → Nat, ad 1000 = b → ad 1001 = a1 → ad 1002 = a2 → zEnv ad s.heap.size L xs s s.heap) ∧ zEx s.heap.size s s.heap := by
  have hs := flat_of_before _ hgv
  have hA : ∀ a : Nat, a < s.heap.size → ¬ zA s.heap.size a := fun a ha => Nat.not_le_of_lt ha
  constructor
  · obtain ⟨adK, adV, h1, h2⟩ := vk_Sof (args := args) (s := s) (N := 1) (tm := fun _ => .string "KeptItems$Source" 67) (len := [zsn]) (byt := [zsb]) (A := zA s.heap.size) (fun i hi => by rcases (show i = 0 by omega) with rfl; decide) (fun i hi => hs _ (by decide +kernel)) (fun i hi => hs _ (by decide +kernel)) (fun i hi => hs _ (by decide +kernel)) (fun i hi => by rcases (show i = 0 by omega) with rfl; exact hs _ (by decide +kernel)) (fun i hi j hj => by
      rcases (show i = 0 by omega) with rfl
      have hj : j < 10 := hj
      rcases (show j = 0 ∨ j = 1 ∨ j = 2 ∨ j = 3 ∨ j = 4 ∨ j = 5 ∨ j = 6 ∨ j = 7 ∨ j = 8 ∨ j = 9 by omega) with rfl | rfl | rfl | rfl | rfl | rfl | rfl | rfl | rfl | rfl <;> exact hs _ (by decide +kernel)) (fun i j hi hj hij => by omega) hA
    refine ⟨adK 0, adV 0, fun ad e0 e1 e2 => ?_⟩
    refine ⟨Nat.le_refl _, by rw [e0]; exact hbl, by rw [e0]; exact hX, ⟨fun i hi => ?_, fun i j hi hj _ => by omega⟩, ?_, ?_⟩
    · rcases (show i = 0 by omega) with rfl
      show _ ∧ _
      rw [e1, e2]
      exact h1.1 0 hi
    · rw [e1]
      have h3 := h2 0 (by decide)
      exact vk_R.of (A := args) (hts (.stringRef "KeptItems$Source" 67 "=;+-*(){},") (List.mem_append_right _ (List.mem_of_getElem? (i := 319) (by decide +kernel)))) h3
    · exact va_Zof (args := args) (hts (.laysStatic "java/lang/String" "COMPACT_STRINGS" "Z") (List.mem_append_right _ (List.mem_of_getElem? (i := 333) (by decide +kernel)))) (hts (.initialized "java/lang/String") (List.mem_append_right _ (List.mem_of_getElem? (i := 12) (by decide +kernel)))) (va_eqt (hs (.eq (.static "java/lang/String" "COMPACT_STRINGS" "Z") (.int 1)) (by decide +kernel))) hA
  · refine ⟨vx_Zqof (args := args) (hts _ (List.mem_append_right _ (List.mem_of_getElem? (i := 233) (by decide +kernel)))) (hts _ (List.mem_append_right _ (List.mem_of_getElem? (i := 6) (by decide +kernel)))) (hs _ (by decide +kernel)) hA, vx_Zqof (args := args) (hts _ (List.mem_append_right _ (List.mem_of_getElem? (i := 235) (by decide +kernel)))) (hts _ (List.mem_append_right _ (List.mem_of_getElem? (i := 6) (by decide +kernel)))) (hs _ (by decide +kernel)) hA, va_Nw.of rfl (hts (.castable zIob zIob) (List.mem_append_right _ (List.mem_of_getElem? (i := 208) (by decide +kernel)))), va_Nw.of rfl (hts (.castable zIse zIse) (List.mem_append_right _ (List.mem_of_getElem? (i := 270) (by decide +kernel)))), va_Nc.of (hs (.not (.castable zIse zIob)) (by decide +kernel)), va_Nw.of rfl (hts zDr (List.mem_append_right _ (List.mem_of_getElem? (i := 209) (by decide +kernel)))), va_Nw.of rfl (hts zDe (List.mem_append_right _ (List.mem_of_getElem? (i := 211) (by decide +kernel)))), va_Nw.of rfl (hts zDt (List.mem_append_right _ (List.mem_of_getElem? (i := 213) (by decide +kernel))))⟩
/-- both objects as they are made -/
def zM0 : zM := (fun a i => if a = 25 ∧ i = 29 then -1 else 0, zP0 2 13, 0)
theorem zInv0 : zInv zM0 0 := by
  have h0 : ∀ a i, ¬ (a = 25 ∧ i = 29) → zM0.1 a i = nI 0 := fun a i h => if_neg h
  refine ⟨2, 13, Or.inl ⟨rfl, rfl⟩, rfl, 0, fun _ => 0, [], 0, fun _ => 0, 0, 0, 0, (0, false), fun _ => 0, fun _ => 0, ⟨h0 _ _ (by omega), by omega, fun i hi => by omega⟩, ⟨h0 _ _ (by omega), fun k q hq => by simp at hq⟩, ⟨by omega, Nat.le_refl _, fun k q hq => by simp at hq, fun k j q q' _ hq => by simp at hq⟩, ⟨h0 _ _ (by omega), by omega, fun i hi => by omega⟩, ⟨h0 _ _ (by omega), fun k q hq => by simp at hq⟩, ⟨h0 _ _ (by omega), h0 _ _ (by omega), by omega, fun i hi => by omega⟩, ⟨h0 _ _ (by omega), h0 _ _ (by omega), by omega⟩, fun k hk => by omega, ⟨h0 _ _ (by omega), h0 _ _ (by omega), by show 0 < 2 ^ 31; omega, if_pos ⟨rfl, rfl⟩⟩, (h0 _ _ (by omega)).trans (h0 _ _ (by omega)).symm, ⟨h0 _ _ (by omega), h0 _ _ (by omega), by omega⟩, ⟨fun k hk => by omega, fun i j _ hj => by omega⟩, h0 _ _ (by omega), by omega⟩
/-- where the cells lie -/
def zad (a0 : Nat) (u : Nat → Nat) (a1 : Nat) (v : Nat → Nat) (a2 b s1 s2 : Nat) : Nat → Nat := fun p => if p = 0 then a0 else if p < 25 then u (p - 1) else if p = 25 then a1 else if p < 53 then v (p - 26) else if p = 53 then a2 else if p = 1000 then b else if p = 1001 then s1 else s2
set_option maxRecDepth 100000 in
set_option maxHeartbeats 4000000 in
theorem zw0 (dA : Nat → ClassId) (a0 : Nat) (u : Nat → Nat) (a1 : Nat) (v : Nat → Nat) (a2 b s1 s2 : Nat) : zw dA (zad a0 u a1 v a2 b s1 s2) zM0 = cK dA a0 u ++ (cM dA a1 v ++ [(a2, .inl (dA 3, 1, .inr (.inl (fun j => if j = 0 then 0 else 0))))]) := rfl
