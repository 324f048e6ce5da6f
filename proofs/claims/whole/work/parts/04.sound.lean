/- the small machine's steps are the machine's -/
def zv (ad : Nat → Nat) : Value → Value
  | .ref p => .ref (ad p)
  | v => v
theorem zv_cat (ad : Nat → Nat) (v : Value) : (zv ad v).category = v.category := by cases v <;> rfl
theorem zcat_map (ad : Nat → Nat) (st : List Value) : ((st.map (zv ad)).map fun v => v.category).sum = zcat st := by
  unfold zcat; rw [List.map_map]; congr 1; apply List.map_congr_left; intro v _; exact zv_cat ad v
def zE (dA : Nat → ClassId) (ad : Nat → Nat) (M : zM) (q : Nat) : ((Nat × Nat) ⊕ Nat) → va_E
  | .inl (t, n) => .inl (dA t, n, if t = 3 then .inr (.inl (fun j => if j = 0 then M.2.2 else 0)) else .inl (M.1 q))
  | .inr ci => .inr (ci, (List.range (zrf ci).length).map (fun k => if (zrf ci).getD k false = true then Value.ref (ad (M.2.1 q k)) else .int (M.1 q k)))
def zw (dA : Nat → ClassId) (ad : Nat → Nat) (M : zM) : va_W := zsh.mapIdx (fun q sh => (ad q, zE dA ad M q sh))
def ztys (dA : Nat → ClassId) : List (ClassId × FieldType) := [(dA 0, .int), (dA 1, .char), (dA 2, .boolean), (dA 3, .long)]
theorem zw_at {dA : Nat → ClassId} {ad : Nat → Nat} {M : zM} {q : Nat} {sh : (Nat × Nat) ⊕ Nat} (h : zsh[q]? = some sh) : (zw dA ad M)[q]? = some (ad q, zE dA ad M q sh) := by
  unfold zw; rw [List.getElem?_mapIdx, h]; rfl
theorem zw_set {dA : Nat → ClassId} {ad : Nat → Nat} {M M' : zM} {o : Nat} {sh : (Nat × Nat) ⊕ Nat} {c : va_E} (h : zsh[o]? = some sh) (hc : zE dA ad M' o sh = c) (ho : ∀ q sh, q ≠ o → zE dA ad M' q sh = zE dA ad M q sh) : (zw dA ad M).set o (ad o, c) = zw dA ad M' := by
  apply List.ext_getElem?
  intro q
  rw [List.getElem?_set]
  by_cases hq : o = q
  · subst hq
    have hlt : o < (zw dA ad M).length := by
      unfold zw; rw [List.length_mapIdx]; exact (List.getElem?_eq_some_iff.mp h).1
    rw [if_pos rfl, if_pos hlt, zw_at h, hc]
  · rw [if_neg hq]
    unfold zw
    rw [List.getElem?_mapIdx, List.getElem?_mapIdx]
    cases zsh[q]? with
    | none => rfl
    | some sh' => simp only [Option.map_some]; rw [ho q sh' (Ne.symm hq)]
theorem zE_I {dA : Nat → ClassId} {ad : Nat → Nat} {M : zM} {o k : Nat} {x : Int32} (q : Nat) (sh : (Nat × Nat) ⊕ Nat) (h : q ≠ o) : zE dA ad (zI M o k x) q sh = zE dA ad M q sh := by
  cases sh <;> simp [zE, zI, h]
theorem zE_P {dA : Nat → ClassId} {ad : Nat → Nat} {M : zM} {o k x : Nat} (q : Nat) (sh : (Nat × Nat) ⊕ Nat) (h : q ≠ o) : zE dA ad (zP M o k x) q sh = zE dA ad M q sh := by
  cases sh <;> simp [zE, zP, h]
theorem zE_C {dA : Nat → ClassId} {ad : Nat → Nat} {M : zM} {o o' sp dp n : Nat} (q : Nat) (sh : (Nat × Nat) ⊕ Nat) (h : q ≠ o') : zE dA ad (zCp M o o' sp dp n) q sh = zE dA ad M q sh := by
  cases sh <;> simp [zE, zCp, h]
theorem zw_I {dA : Nat → ClassId} {ad : Nat → Nat} {M : zM} {o t n k : Nat} {x : Int32} (h : zsh[o]? = some (.inl (t, n))) (ht : t ≠ 3) : (zw dA ad M).set o (ad o, .inl (dA t, n, .inl (upd (M.1 o) k x))) = zw dA ad (zI M o k x) :=
  zw_set h (by simp [zE, zI, ht]) (fun q sh hq => zE_I q sh hq)
theorem zw_C {dA : Nat → ClassId} {ad : Nat → Nat} {M : zM} {o o' t n sp dp k : Nat} (h : zsh[o']? = some (.inl (t, n))) (ht : t ≠ 3) : (zw dA ad M).set o' (ad o', .inl (dA t, n, .inl (va_cpy (M.1 o) (M.1 o') sp dp k))) = zw dA ad (zCp M o o' sp dp k) :=
  zw_set h (by simp [zE, zCp, ht]) (fun q sh hq => zE_C q sh hq)
theorem zw_FI {dA : Nat → ClassId} {ad : Nat → Nat} {M : zM} {o ci k : Nat} {x : Int32} {fs : List Value} (h : zsh[o]? = some (.inr ci)) (hk : (zrf ci)[k]? = some false) (hf : zE dA ad M o (.inr ci) = .inr (ci, fs)) : (zw dA ad M).set o (ad o, .inr (ci, fs.set k (.int x))) = zw dA ad (zI M o k x) := by
  refine zw_set h ?_ (fun q sh hq => zE_I q sh hq)
  simp only [zE, Sum.inr.injEq, Prod.mk.injEq, true_and] at hf ⊢
  subst hf
  apply List.ext_getElem?
  intro i
  rw [List.getElem?_set]
  by_cases hi : k = i
  · subst hi
    have hlt := (List.getElem?_eq_some_iff.mp hk).1
    have hg : (zrf ci)[k] = false := (List.getElem?_eq_some_iff.mp hk).2
    simp [zI, List.getElem?_range, hlt, hk, hg, upd, List.getD_eq_getElem?_getD]
  · rw [if_neg hi]
    simp only [List.getElem?_map]
    by_cases hr : i < (zrf ci).length
    · rw [List.getElem?_range hr]
      simp only [Option.map_some, zI, if_true, upd]
      rw [if_neg (Ne.symm hi)]
    · rw [List.getElem?_eq_none (by simpa using hr)]; rfl
theorem zw_FP {dA : Nat → ClassId} {ad : Nat → Nat} {M : zM} {o ci k x : Nat} {fs : List Value} (h : zsh[o]? = some (.inr ci)) (hk : (zrf ci)[k]? = some true) (hf : zE dA ad M o (.inr ci) = .inr (ci, fs)) : (zw dA ad M).set o (ad o, .inr (ci, fs.set k (.ref (ad x)))) = zw dA ad (zP M o k x) := by
  refine zw_set h ?_ (fun q sh hq => zE_P q sh hq)
  simp only [zE, Sum.inr.injEq, Prod.mk.injEq, true_and] at hf ⊢
  subst hf
  apply List.ext_getElem?
  intro i
  rw [List.getElem?_set]
  by_cases hi : k = i
  · subst hi
    have hlt := (List.getElem?_eq_some_iff.mp hk).1
    have hg : (zrf ci)[k] = true := (List.getElem?_eq_some_iff.mp hk).2
    simp [zP, List.getElem?_range, hlt, hk, hg, List.getD_eq_getElem?_getD]
  · rw [if_neg hi]
    simp only [List.getElem?_map]
    by_cases hr : i < (zrf ci).length
    · rw [List.getElem?_range hr]
      simp only [Option.map_some, zP, true_and]
      rw [if_neg (Ne.symm hi)]
    · rw [List.getElem?_eq_none (by simpa using hr)]; rfl
theorem zE_J {dA : Nat → ClassId} {ad : Nat → Nat} {M : zM} {x : Int64} (q : Nat) (sh : (Nat × Nat) ⊕ Nat) (h : ∀ n, sh ≠ .inl (3, n)) : zE dA ad (zJ M x) q sh = zE dA ad M q sh := by
  rcases sh with ⟨t, n⟩ | ci
  · have ht : t ≠ 3 := fun ht => h n (by rw [ht])
    simp [zE, zJ, ht]
  · simp [zE, zJ]
theorem zw_J {dA : Nat → ClassId} {ad : Nat → Nat} {M : zM} {o : Nat} {x : Int64} (h : zsh[o]? = some (.inl (3, 1))) (ho : ∀ q n, zsh[q]? = some (.inl (3, n)) → q = o) : (zw dA ad M).set o (ad o, .inl (dA 3, 1, .inr (.inl (vp_updL (fun j => if j = 0 then M.2.2 else 0) 0 x)))) = zw dA ad (zJ M x) := by
  apply List.ext_getElem?
  intro q
  rw [List.getElem?_set]
  by_cases hq : o = q
  · subst hq
    have hlt : o < (zw dA ad M).length := by
      unfold zw; rw [List.length_mapIdx]; exact (List.getElem?_eq_some_iff.mp h).1
    rw [if_pos rfl, if_pos hlt, zw_at h]
    congr 2
    simp only [zE, zJ, if_true]
    have hf : vp_updL (fun j => if j = 0 then M.2.2 else 0) 0 x = fun j => if j = 0 then x else 0 := by
      funext j
      unfold vp_updL
      split
      · rfl
      · rename_i hj; exact if_neg hj
    rw [hf]
  · rw [if_neg hq]
    unfold zw
    rw [List.getElem?_mapIdx, List.getElem?_mapIdx]
    cases hs : zsh[q]? with
    | none => rfl
    | some sh' => simp only [Option.map_some]; rw [zE_J q sh' (fun n hn => hq (ho q n (hn ▸ hs)).symm)]
/- locals -/
def zlf (ad : Nat → Nat) (L : Nat → Value) (i : Nat) : Option (Nat × Value) := match L i with
  | .int x => some (i, .int x)
  | .ref x => some (i, .ref (ad x))
  | _ => none
def zlv (ad : Nat → Nat) (n : Nat) (L : Nat → Value) : List (Nat × Value) := (List.range n).filterMap (zlf ad L)
def zl (ad : Nat → Nat) (ls : Array Slot) (n : Nat) (L : Nat → Value) : Prop := lv_has ls n (zlv ad n L) ∧ ∀ i, n ≤ i → L i = .null
theorem zlv_int {ad : Nat → Nat} {n i : Nat} {L : Nat → Value} {x : Int32} (hi : i < n) (h : L i = .int x) : (i, Value.int x) ∈ zlv ad n L :=
  List.mem_filterMap.mpr ⟨i, List.mem_range.mpr hi, by simp [zlf, h]⟩
theorem zlv_ref {ad : Nat → Nat} {n i : Nat} {L : Nat → Value} {x : Nat} (hi : i < n) (h : L i = .ref x) : (i, Value.ref (ad x)) ∈ zlv ad n L :=
  List.mem_filterMap.mpr ⟨i, List.mem_range.mpr hi, by simp [zlf, h]⟩
theorem zlv_mem {ad : Nat → Nat} {n : Nat} {L : Nat → Value} {q : Nat × Value} (h : q ∈ zlv ad n L) : q.1 < n ∧ zlf ad L q.1 = some q ∧ q.2.category = 1 := by
  obtain ⟨i, hi, hq⟩ := List.mem_filterMap.mp h
  have hq2 := hq
  unfold zlf at hq
  split at hq <;> simp at hq <;> subst hq <;> exact ⟨List.mem_range.mp hi, hq2, rfl⟩
theorem zl_lt {ad : Nat → Nat} {ls : Array Slot} {n i : Nat} {L : Nat → Value} (h : zl ad ls n L) (hi : L i ≠ .null) : i < n :=
  Nat.lt_of_not_le (fun hn => hi (h.2 i hn))
theorem zl_int {ad : Nat → Nat} {ls : Array Slot} {n i : Nat} {L : Nat → Value} {x : Int32} (h : zl ad ls n L) (hL : L i = .int x) : ls[i]? = some (.val (.int x)) :=
  h.1.2.2 _ (zlv_int (zl_lt h (by rw [hL]; intro hh; cases hh)) hL)
theorem zl_ref {ad : Nat → Nat} {ls : Array Slot} {n i : Nat} {L : Nat → Value} {x : Nat} (h : zl ad ls n L) (hL : L i = .ref x) : ls[i]? = some (.val (.ref (ad x))) :=
  h.1.2.2 _ (zlv_ref (zl_lt h (by rw [hL]; intro hh; cases hh)) hL)
theorem zu_same (L : Nat → Value) (k : Nat) (v : Value) : zu L k v k = v := by simp [zu]
theorem zu_ne {L : Nat → Value} {k i : Nat} {v : Value} (h : i ≠ k) : zu L k v i = L i := by
  have hb : Nat.beq i k = false := by
    cases hc : Nat.beq i k with
    | false => rfl
    | true => exact absurd (Nat.eq_of_beq_eq_true hc) h
  unfold zu; rw [hb]; rfl
theorem zl_set {ad : Nat → Nat} {ls ls' : Array Slot} {n i : Nat} {L : Nat → Value} {v w : Value} (h : zl ad ls n L) (hi : i < n) (hv : zlf ad (zu L i v) i = some (i, w)) (h' : lv_has ls' n ((i, w) :: (zlv ad n L).filter (fun q => !(q.1 == i) && !(q.1 + 1 == i && q.2.category == 2)))) : zl ad ls' n (zu L i v) := by
  refine ⟨⟨h'.1, h'.2.1, fun q hq => ?_⟩, fun j hj => ?_⟩
  · obtain ⟨h1, h2, h3⟩ := zlv_mem hq
    apply h'.2.2
    by_cases hqi : q.1 = i
    · rw [hqi] at h2; rw [hv] at h2; cases h2; exact List.mem_cons_self
    · apply List.mem_cons_of_mem
      refine List.mem_filter.mpr ⟨List.mem_filterMap.mpr ⟨q.1, List.mem_range.mpr h1, ?_⟩, ?_⟩
      · rw [← h2]; unfold zlf; rw [zu_ne hqi]
      · rw [h3]; simp [hqi]
  · rw [zu_ne (by omega)]; exact h.2 j hj
theorem lv_args_mem : ∀ (vs : List Value) (i0 : Nat), (∀ v ∈ vs, v.category = 1) → ∀ (i : Nat) (v : Value), vs[i]? = some v → (i0 + i, v) ∈ lv_args i0 vs
  | [], _, _, i, v, h => by simp at h
  | a :: vs, i0, hc, i, v, h => by
    have ha := hc a List.mem_cons_self
    unfold lv_args
    rw [if_neg (by rw [ha]; decide)]
    cases i with
    | zero => simp at h; subst h; exact List.mem_cons_self
    | succ i =>
      apply List.mem_cons_of_mem
      have := lv_args_mem vs (i0 + 1) (fun v hv => hc v (List.mem_cons_of_mem _ hv)) i v (by simpa using h)
      rw [show i0 + (i + 1) = i0 + 1 + i by omega]; exact this
theorem lg_sl_len : ∀ (vs : List Value), (∀ v ∈ vs, v.category = 1) → (lg_sl vs).length = vs.length
  | [], _ => rfl
  | a :: vs, hc => by
    have ha := hc a List.mem_cons_self
    have := lg_sl_len vs (fun v hv => hc v (List.mem_cons_of_mem _ hv))
    unfold lg_sl at this ⊢
    rw [List.flatMap_cons, List.length_append, this, if_neg (by rw [ha]; decide)]
    simp; omega
theorem zl_entry {ad : Nat → Nat} {n : Nat} (As : List Value) (hc : ∀ v ∈ As, v.category = 1) (hn : As.length ≤ n) : zl ad ((lg_sl (As.map (zv ad)) ++ List.replicate (n - (lg_sl (As.map (zv ad))).length) Slot.unset).toArray) n (zarg As) := by
  have hc' : ∀ v ∈ As.map (zv ad), v.category = 1 := by
    intro v hv
    obtain ⟨w, hw, rfl⟩ := List.mem_map.mp hv
    rw [zv_cat]; exact hc w hw
  have h := lv_entry (As.map (zv ad)) (n := n) (by rw [lg_sl_len _ hc']; simpa using hn)
  refine ⟨⟨h.1, h.2.1, fun q hq => ?_⟩, fun i hi => ?_⟩
  · obtain ⟨h1, h2, h3⟩ := zlv_mem hq
    apply h.2.2
    have : (0 + q.1, q.2) ∈ lv_args 0 (As.map (zv ad)) := by
      apply lv_args_mem _ _ hc'
      rw [List.getElem?_map]
      unfold zlf zarg at h2
      rw [List.getD_eq_getElem?_getD] at h2
      cases hA : As[q.1]? with
      | none => rw [hA] at h2; simp at h2
      | some v =>
        rw [hA] at h2
        cases v <;> simp at h2 <;> (rw [← h2]; rfl)
    simpa using this
  · unfold zarg
    rw [List.getD_eq_getElem?_getD, List.getElem?_eq_none (by omega)]; rfl
