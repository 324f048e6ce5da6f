def zA (B0 : Nat) : Nat → Prop := fun q => B0 ≤ q
def zEnv (ad : Nat → Nat) (B0 Lx : Nat) (xs : Nat → Int32) (s : State) (H : Heap) : Prop := B0 ≤ H.size ∧ ad 1000 < B0 ∧ va_X (ad 1000) Lx xs s H ∧ vk_S 1 [zsn] [zsb] (fun _ => ad 1001) (fun _ => ad 1002) (zA B0) s H ∧ vk_R zso zsi zstx (ad 1001) s ∧ va_Z "java/lang/String" "COMPACT_STRINGS" "Z" (.int 1) (zA B0) s H
def zCtx (ad : Nat → Nat) (B0 Lx : Nat) (xs : Nat → Int32) (d : Nat) (y : zY) (p : Program) (s : State) (m : MethodId) (args : Array Value) (c : Code) (R : Room) (cells slots : Nat) : Prop := p.tables.exec = Jvm.exec ∧ c.code = y.2.1 ∧ c.maxLocals = y.2.2.1 ∧ s.vm.findClass y.1.cls = some m.cls ∧ (∀ w ∈ zT, w.before args s = true) ∧ (d ≤ R.frames ∧ 64 * d ≤ R.locals ∧ cells ≤ R.cells ∧ slots ≤ R.slots) ∧ zEnv ad B0 Lx xs s s.heap
def zWd (dC : Nat → ClassId) (dI : Nat → Nat → Nat) (dA : Nat → ClassId) (ad : Nat → Nat) (B0 : Nat) (s : State) (H : Heap) (M : zM) (locs : List Loc) : Prop := va_K (dC, dI) zcl (ztys dA) s ∧ va_P (dC, dI) zcl (zw dA ad M) H ∧ va_D (zA B0) (zw dA ad M) ∧ va_S (zA B0) s.heap H locs
def WX (l : Launch) (dC : Nat → ClassId) (dI : Nat → Nat → Nat) (dA : Nat → ClassId) (ad : Nat → Nat) (B0 Lx : Nat) (xs : Nat → Int32) : zX := fun d y pc L st M Q => ∀ (p : Program) (e : Env) (s : State) (m : MethodId) (args : Array Value) (below : List Frame) (meth : Method) (c : Code) (R : Room) (H : Heap) (locs : List Loc) (cells slots : Nat) (Q' : State → Prop) (ls : Array Slot), zCtx ad B0 Lx xs d y p s m args c R cells slots → zl ad ls y.2.2.1 L → zWd dC dI dA ad B0 s H M locs → (∀ (pc' : Nat) (L' : Nat → Value) (st' : List Value) (M' : zM) (H' : Heap) (locs' : List Loc) (ls' : Array Slot), Q pc' L' st' M' → zl ad ls' y.2.2.1 L' → zWd dC dI dA ad B0 s H' M' locs' → W p l e R s m args below meth c H' locs' cells slots Q' (F0 m pc' ls' (st'.map (zv ad)))) → W p l e R s m args below meth c H locs cells slots Q' (F0 m pc ls (st.map (zv ad)))
theorem zEnv.next {ad : Nat → Nat} {B0 Lx : Nat} {xs : Nat → Int32} {s U : State} {H : Heap} {locs : List Loc} (h : zEnv ad B0 Lx xs s s.heap) (hS : va_S (zA B0) s.heap H locs) (hU : U.heap = H) (hW : s.WarmedH U.vm) : zEnv ad B0 Lx xs U U.heap := by
  obtain ⟨h1, h2, h3, h4, h5, h6⟩ := h
  subst hU
  have hk : ∀ a : Nat, a < s.heap.size → ¬ zA B0 a → U.heap[a]? = s.heap[a]? := fun a ha hn => hS.2.1 a ha hn
  exact ⟨Nat.le_trans h1 hS.1, h2, va_X.moved hW.alike (h3.kept (hk _ (Nat.lt_of_lt_of_le h2 h1) (Nat.not_le_of_lt h2))), vk_S.moved hW.alike (h4.kept hk), vk_R.warm hW h5, va_Z.moved hW.alike (h6.kept hk)⟩
section
variable {l : Launch} {dC : Nat → ClassId} {dI : Nat → Nat → Nat} {dA : Nat → ClassId} {ad : Nat → Nat} {B0 Lx : Nat} {xs : Nat → Int32}
theorem sn_done : zr_done (WX l dC dI dA ad B0 Lx xs) := by
  intro d y pc L st M Q h p e s m args below meth c R H locs cells slots Q' ls C hl hw hq
  exact hq _ _ _ _ _ _ _ h hl hw
theorem sn_const : zr_const (WX l dC dI dA ad B0 Lx xs) := by
  intro d y pc L st M Q ins len v hd hc hk p e s m args below meth c R H locs cells slots Q' ls C hl hw hq
  have hk := hk p e s m args below meth c R H locs cells slots Q' ls C hl hw hq
  unfold zconst at hc
  split at hc
  · cases hc; exact lv_iconst C.1 C.2.1 hd rfl hk
  · cases hc; exact lv_bipush C.1 C.2.1 hd rfl hk
  · cases hc; exact lv_sipush C.1 C.2.1 hd rfl hk
  · cases hc
theorem sn_il : zr_il (WX l dC dI dA ad B0 Lx xs) := by
  intro d y pc L st M Q ins len i x hd hc hL hk p e s m args below meth c R H locs cells slots Q' ls C hl hw hq
  have hk := hk p e s m args below meth c R H locs cells slots Q' ls C hl hw hq
  unfold zil at hc
  split at hc
  · cases hc; exact lv_iload_n C.1 C.2.1 hd rfl (zl_int hl hL) hk
  · cases hc; exact lv_iload C.1 C.2.1 hd (zl_int hl hL) hk
  · cases hc
theorem sn_al : zr_al (WX l dC dI dA ad B0 Lx xs) := by
  intro d y pc L st M Q ins len i x hd hc hL hk p e s m args below meth c R H locs cells slots Q' ls C hl hw hq
  have hk := hk p e s m args below meth c R H locs cells slots Q' ls C hl hw hq
  unfold zal at hc
  split at hc
  · cases hc; exact lv_aload_n C.1 C.2.1 hd rfl (zl_ref hl hL) hk
  · cases hc; exact lv_aload C.1 C.2.1 hd (zl_ref hl hL) hk
  · cases hc
theorem sn_is : zr_is (WX l dC dI dA ad B0 Lx xs) := by
  intro d y pc L st M Q ins len i x hd hc hi hk p e s m args below meth c R H locs cells slots Q' ls C hl hw hq
  have hk := fun ls' h' => hk p e s m args below meth c R H locs cells slots Q' ls' C h' hw hq
  unfold zis at hc
  split at hc
  · cases hc; exact lv_istore_n C.1 C.2.1 hd rfl hl.1 hi rfl (fun ls' h' => hk ls' (zl_set hl hi (by simp [zlf, zu_same]) h'))
  · cases hc; exact lv_istore C.1 C.2.1 hd hl.1 hi rfl (fun ls' h' => hk ls' (zl_set hl hi (by simp [zlf, zu_same]) h'))
  · cases hc
theorem sn_as : zr_as (WX l dC dI dA ad B0 Lx xs) := by
  intro d y pc L st M Q ins len i x hd hc hi hk p e s m args below meth c R H locs cells slots Q' ls C hl hw hq
  have hk := fun ls' h' => hk p e s m args below meth c R H locs cells slots Q' ls' C h' hw hq
  unfold zas at hc
  split at hc
  · cases hc; exact lv_astore_n C.1 C.2.1 hd rfl hl.1 hi rfl (fun ls' h' => hk ls' (zl_set hl hi (by simp [zlf, zu_same]) h'))
  · cases hc; exact lv_astore C.1 C.2.1 hd hl.1 hi rfl (fun ls' h' => hk ls' (zl_set hl hi (by simp [zlf, zu_same]) h'))
  · cases hc
theorem sn_inc : zr_inc (WX l dC dI dA ad B0 Lx xs) := by
  intro d y pc L st M Q i n x hd hL hk p e s m args below meth c R H locs cells slots Q' ls C hl hw hq
  have hk := fun ls' h' => hk p e s m args below meth c R H locs cells slots Q' ls' C h' hw hq
  have hi : i < y.2.2.1 := zl_lt hl (by rw [hL]; intro hh; cases hh)
  obtain ⟨k, hkk⟩ := List.mem_iff_getElem?.mp (zlv_int (ad := ad) hi hL)
  exact lv_iinc C.1 C.2.1 hd hl.1 hkk rfl hi rfl (fun ls' h' => hk ls' (zl_set hl hi (by simp [zlf, zu_same]) h'))
theorem sn_bin : zr_bin (WX l dC dI dA ad B0 Lx xs) := by
  intro d y pc L st M Q ins a b v hd hc hk p e s m args below meth c R H locs cells slots Q' ls C hl hw hq
  have hk := hk p e s m args below meth c R H locs cells slots Q' ls C hl hw hq
  unfold zbin at hc
  split at hc
  · cases hc; exact lv_iadd C.1 C.2.1 hd hk
  · cases hc; exact lv_isub C.1 C.2.1 hd hk
  · cases hc; exact lv_imul C.1 C.2.1 hd hk
  · cases hc; exact lv_iand C.1 C.2.1 hd hk
  · cases hc; exact lv_ishr C.1 C.2.1 hd hk
  · split at hc
    · cases hc
    · rename_i hne; cases hc; exact lv_idiv C.1 C.2.1 hd hne hk
  · split at hc
    · cases hc
    · rename_i hne; cases hc; exact lv_irem C.1 C.2.1 hd hne hk
  · cases hc
theorem sn_un : zr_un (WX l dC dI dA ad B0 Lx xs) := by
  intro d y pc L st M Q ins a v hd hc hk p e s m args below meth c R H locs cells slots Q' ls C hl hw hq
  have hk := hk p e s m args below meth c R H locs cells slots Q' ls C hl hw hq
  unfold zun at hc
  split at hc
  · cases hc; exact lv_ineg C.1 C.2.1 hd hk
  · cases hc; exact lv_i2c C.1 C.2.1 hd rfl hk
  · cases hc; exact lv_i2b C.1 C.2.1 hd rfl hk
  · cases hc
theorem sn_stk : zr_stk (WX l dC dI dA ad B0 Lx xs) := by
  intro d y pc L st st' M Q ins hd hc hk p e s m args below meth c R H locs cells slots Q' ls C hl hw hq
  have hk := hk p e s m args below meth c R H locs cells slots Q' ls C hl hw hq
  unfold zstk at hc
  split at hc
  · split at hc
    · rename_i h1; cases hc; exact lv_dup C.1 C.2.1 hd ((zv_cat _ _).trans h1) hk
    · cases hc
  · split at hc
    · rename_i h1; cases hc; exact lv_pop C.1 C.2.1 hd ((zv_cat _ _).trans h1) hk
    · cases hc
  · split at hc
    · rename_i h1; cases hc; exact lv_dup_x1 C.1 C.2.1 hd ((zv_cat _ _).trans h1.1) ((zv_cat _ _).trans h1.2) hk
    · cases hc
  · split at hc
    · rename_i h1; cases hc; exact lv_dup_x2 C.1 C.2.1 hd ((zv_cat _ _).trans h1.1) ((zv_cat _ _).trans h1.2.1) ((zv_cat _ _).trans h1.2.2) hk
    · cases hc
  · split at hc
    · rename_i h1; cases hc; exact lv_dup2_11 C.1 C.2.1 hd ((zv_cat _ _).trans h1.1) ((zv_cat _ _).trans h1.2) hk
    · cases hc
  · cases hc
theorem sn_icmp : zr_icmp (WX l dC dI dA ad B0 Lx xs) := by
  intro d y pc L st M Q op off tgt a b hd ht kt kf p e s m args below meth c R H locs cells slots Q' ls C hl hw hq
  have kt := fun h => kt h p e s m args below meth c R H locs cells slots Q' ls C hl hw hq
  have kf := fun h => kf h p e s m args below meth c R H locs cells slots Q' ls C hl hw hq
  cases op
  · exact lv_icmp_eq C.1 C.2.1 hd ht kt kf
  · exact lv_icmp_ne C.1 C.2.1 hd ht kt (fun h => kf (fun hn => hn h))
  · exact lv_icmp_lt C.1 C.2.1 hd ht kt kf
  · exact lv_icmp_ge C.1 C.2.1 hd ht kt kf
  · exact lv_icmp_gt C.1 C.2.1 hd ht kt kf
  · exact lv_icmp_le C.1 C.2.1 hd ht kt kf
theorem sn_if : zr_if (WX l dC dI dA ad B0 Lx xs) := by
  intro d y pc L st M Q op off tgt a hd ht kt kf p e s m args below meth c R H locs cells slots Q' ls C hl hw hq
  have kt := fun h => kt h p e s m args below meth c R H locs cells slots Q' ls C hl hw hq
  have kf := fun h => kf h p e s m args below meth c R H locs cells slots Q' ls C hl hw hq
  cases op
  · exact lv_if_eq C.1 C.2.1 hd ht kt kf
  · exact lv_if_ne C.1 C.2.1 hd ht kt (fun h => kf (fun hn => hn h))
  · exact lv_if_lt C.1 C.2.1 hd ht kt kf
  · exact lv_if_ge C.1 C.2.1 hd ht kt kf
  · exact lv_if_gt C.1 C.2.1 hd ht kt kf
  · exact lv_if_le C.1 C.2.1 hd ht kt kf
theorem sn_goto : zr_goto (WX l dC dI dA ad B0 Lx xs) := by
  intro d y pc L st M Q off tgt hd ht hk p e s m args below meth c R H locs cells slots Q' ls C hl hw hq
  exact lv_goto C.1 C.2.1 hd ht (hk p e s m args below meth c R H locs cells slots Q' ls C hl hw hq)
theorem sn_tin : zr_tin (WX l dC dI dA ad B0 Lx xs) := by
  intro d y pc L st M Q dflt lo hi offs len off tgt a hd h1 h2 ho ht hk p e s m args below meth c R H locs cells slots Q' ls C hl hw hq
  exact lv_tableIn C.1 C.2.1 hd h1 h2 ho ht (hk p e s m args below meth c R H locs cells slots Q' ls C hl hw hq)
theorem sn_tout : zr_tout (WX l dC dI dA ad B0 Lx xs) := by
  intro d y pc L st M Q dflt lo hi offs len tgt a hd h1 ht hk p e s m args below meth c R H locs cells slots Q' ls C hl hw hq
  exact lv_tableOut C.1 C.2.1 hd h1 ht (hk p e s m args below meth c R H locs cells slots Q' ls C hl hw hq)
theorem zfs_get {M : zM} {o ci k : Nat} {r : Bool} (hr : (zrf ci)[k]? = some r) : ((List.range (zrf ci).length).map (fun k => if (zrf ci).getD k false = true then Value.ref (ad (M.2.1 o k)) else .int (M.1 o k)))[k]? = some (if r = true then Value.ref (ad (M.2.1 o k)) else .int (M.1 o k)) := by
  have hlt := (List.getElem?_eq_some_iff.mp hr).1
  rw [List.getElem?_map, List.getElem?_range hlt]
  simp only [Option.map_some, List.getD_eq_getElem?_getD, hr, Option.getD_some]
theorem sn_geti : zr_geti (WX l dC dI dA ad B0 Lx xs) := by
  intro d y pc L st M Q idx o ci k hd hf ho hk p e s m args below meth c R H locs cells slots Q' ls C hl hw hq
  have hk := hk p e s m args below meth c R H locs cells slots Q' ls C hl hw hq
  obtain ⟨Cn, T, N, hc, hkN, hlk, hr⟩ := hf
  exact va_get C.1 C.2.1 C.2.2.2.2.1 (zcl_in hc) C.2.2.2.1 hw.1 hw.2.1 o (zw_at ho) hc k hkN (C.2.2.2.2.1 _ hlk) (fun _ h => h) (zfs_get hr) hd hk
theorem sn_getr : zr_getr (WX l dC dI dA ad B0 Lx xs) := by
  intro d y pc L st M Q idx o ci k hd hf ho hk p e s m args below meth c R H locs cells slots Q' ls C hl hw hq
  have hk := hk p e s m args below meth c R H locs cells slots Q' ls C hl hw hq
  obtain ⟨Cn, T, N, hc, hkN, hlk, hr⟩ := hf
  exact va_get C.1 C.2.1 C.2.2.2.2.1 (zcl_in hc) C.2.2.2.1 hw.1 hw.2.1 o (zw_at ho) hc k hkN (C.2.2.2.2.1 _ hlk) (fun _ h => h) (zfs_get hr) hd hk
theorem sn_puti : zr_puti (WX l dC dI dA ad B0 Lx xs) := by
  intro d y pc L st M Q idx o ci k x ty hd hf hfw ho hn hfi hk p e s m args below meth c R H locs cells slots Q' ls C hl hw hq
  have hk := fun H' locs' hw' => hk p e s m args below meth c R H' locs' cells slots Q' ls C hl hw' hq
  obtain ⟨Cn, T, N, hc, hkN, hlk, hr⟩ := hf
  obtain ⟨Cn', T', N', hc', hfin, hty⟩ := hfw
  rw [hc] at hc'; cases hc'
  obtain ⟨ty0, hty0, hnm⟩ := zcl_ty hc
  have hlt := (List.getElem?_eq_some_iff.mp hr).1
  refine va_put (v := .int x) C.1 C.2.1 C.2.2.2.2.1 (zcl_in hc) ty0 hty0 hnm C.2.2.2.1 hw.1 hw.2.1 hw.2.2.1 hw.2.2.2 o (zw_at ho) hc k hkN (C.2.2.2.2.1 _ hlk) (fun _ h => h) hfin hty hn hfi (by simpa using hlt) hd (fun H1 locs1 hP1 hD1 hS1 => hk H1 locs1 ?_)
  rw [zw_FI ho hr rfl] at hP1 hD1
  exact ⟨hw.1, hP1, hD1, hS1⟩
theorem sn_putr : zr_putr (WX l dC dI dA ad B0 Lx xs) := by
  intro d y pc L st M Q idx o ci k x Co hd hf hfw ho hk p e s m args below meth c R H locs cells slots Q' ls C hl hw hq
  have hk := fun H' locs' hw' => hk p e s m args below meth c R H' locs' cells slots Q' ls C hl hw' hq
  obtain ⟨Cn, T, N, hc, hkN, hlk, hr⟩ := hf
  obtain ⟨Cn', T', N', hc', hfin, hty⟩ := hfw
  rw [hc] at hc'; cases hc'
  obtain ⟨ty0, hty0, hnm⟩ := zcl_ty hc
  have hlt := (List.getElem?_eq_some_iff.mp hr).1
  refine va_put (v := .ref (ad x)) C.1 C.2.1 C.2.2.2.2.1 (zcl_in hc) ty0 hty0 hnm C.2.2.2.1 hw.1 hw.2.1 hw.2.2.1 hw.2.2.2 o (zw_at ho) hc k hkN (C.2.2.2.2.1 _ hlk) (fun _ h => h) hfin hty rfl rfl (by simpa using hlt) hd (fun H1 locs1 hP1 hD1 hS1 => hk H1 locs1 ?_)
  rw [zw_FP ho hr rfl] at hP1 hD1
  exact ⟨hw.1, hP1, hD1, hS1⟩
theorem zE_arr {M : zM} {o t n : Nat} (h : zsh[o]? = some (.inl (t, n))) (ht : t ≠ 3) : (zw dA ad M)[o]? = some (ad o, .inl (dA t, n, .inl (M.1 o))) := by
  rw [zw_at h]; simp [zE, ht]
theorem sn_ald : zr_ald (WX l dC dI dA ad B0 Lx xs) := by
  intro d y pc L st M Q ins t o n i hd hc ho hin hk p e s m args below meth c R H locs cells slots Q' ls C hl hw hq
  have hk := hk p e s m args below meth c R H locs cells slots Q' ls C hl hw hq
  unfold zld at hc
  split at hc
  · cases hc; exact va_iald C.1 C.2.1 hw.1 hw.2.1 o 0 (zE_arr ho (by decide)) rfl hin hd hk
  · cases hc; exact va_cald C.1 C.2.1 hw.1 hw.2.1 o 1 (zE_arr ho (by decide)) rfl hin hd hk
  · cases hc; exact va_zald C.1 C.2.1 hw.1 hw.2.1 o 2 (zE_arr ho (by decide)) rfl hin hd hk
  · cases hc
theorem sn_ast : zr_ast (WX l dC dI dA ad B0 Lx xs) := by
  intro d y pc L st M Q ins t o n i x hd hc ho hin hk p e s m args below meth c R H locs cells slots Q' ls C hl hw hq
  have hk := fun H' locs' hw' => hk p e s m args below meth c R H' locs' cells slots Q' ls C hl hw' hq
  unfold zst at hc
  split at hc
  · cases hc
    refine va_iast C.1 C.2.1 hw.1 hw.2.1 hw.2.2.1 hw.2.2.2 o 0 (zE_arr ho (by decide)) rfl hin hd (fun H1 locs1 hP1 hD1 hS1 => hk H1 locs1 ?_)
    rw [zw_I ho (by decide)] at hP1 hD1
    exact ⟨hw.1, hP1, hD1, hS1⟩
  · cases hc
    refine va_cast C.1 C.2.1 hw.1 hw.2.1 hw.2.2.1 hw.2.2.2 o 1 (zE_arr ho (by decide)) rfl hin hd (fun H1 locs1 hP1 hD1 hS1 => hk H1 locs1 ?_)
    rw [zw_I ho (by decide)] at hP1 hD1
    exact ⟨hw.1, hP1, hD1, hS1⟩
  · cases hc
    refine va_zast C.1 C.2.1 hw.1 hw.2.1 hw.2.2.1 hw.2.2.2 o 2 (zE_arr ho (by decide)) rfl hin hd (fun H1 locs1 hP1 hD1 hS1 => hk H1 locs1 ?_)
    rw [zw_I ho (by decide)] at hP1 hD1
    exact ⟨hw.1, hP1, hD1, hS1⟩
  · cases hc
theorem sn_alen : zr_alen (WX l dC dI dA ad B0 Lx xs) := by
  intro d y pc L st M Q t o n hd ho hk p e s m args below meth c R H locs cells slots Q' ls C hl hw hq
  have hk := hk p e s m args below meth c R H locs cells slots Q' ls C hl hw hq
  have ht := zsh_t ho
  have hty : (ztys dA)[t]? = some (dA t, ztt t) := by
    rcases (show t = 0 ∨ t = 1 ∨ t = 2 ∨ t = 3 by omega) with rfl | rfl | rfl | rfl <;> rfl
  exact va_alen C.1 C.2.1 hw.1 hw.2.1 o t (zw_at ho) hty rfl hd hk
theorem zE_lng {M : zM} {o : Nat} (h : zsh[o]? = some (.inl (3, 1))) : (zw dA ad M)[o]? = some (ad o, .inl (dA 3, 1, .inr (.inl (fun j => if j = 0 then M.2.2 else 0)))) := by
  rw [zw_at h]; rfl
theorem zin1 {i : Int32} (h : vp_in i 1) : i.toNatClampNeg = 0 := by
  obtain ⟨j, hj, rfl⟩ := vp_in_of h (by decide)
  rw [nI_clamp (by omega)]; omega
theorem sn_lald : zr_lald (WX l dC dI dA ad B0 Lx xs) := by
  intro d y pc L st M Q o i hd ho hin hk p e s m args below meth c R H locs cells slots Q' ls C hl hw hq
  have hk := hk p e s m args below meth c R H locs cells slots Q' ls C hl hw hq
  have hi := zin1 hin
  refine va_lald C.1 C.2.1 hw.1 hw.2.1 o 3 (zE_lng ho) rfl hin hd ?_
  rw [hi]; exact hk
theorem sn_last : zr_last (WX l dC dI dA ad B0 Lx xs) := by
  intro d y pc L st M Q o i x hd ho hin hk p e s m args below meth c R H locs cells slots Q' ls C hl hw hq
  have hk := fun H' locs' hw' => hk p e s m args below meth c R H' locs' cells slots Q' ls C hl hw' hq
  have hi := zin1 hin
  refine va_last C.1 C.2.1 hw.1 hw.2.1 hw.2.2.1 hw.2.2.2 o 3 (zE_lng ho) rfl hin hd (fun H1 locs1 hP1 hD1 hS1 => hk H1 locs1 ?_)
  rw [hi, zw_J ho (fun q n hq => zsh_l hq ho)] at hP1 hD1
  exact ⟨hw.1, hP1, hD1, hS1⟩
theorem sn_i2l : zr_i2l (WX l dC dI dA ad B0 Lx xs) := by
  intro d y pc L st M Q x hd hk p e s m args below meth c R H locs cells slots Q' ls C hl hw hq
  exact lv_i2l C.1 C.2.1 hd rfl (hk p e s m args below meth c R H locs cells slots Q' ls C hl hw hq)
theorem sn_lcmp : zr_lcmp (WX l dC dI dA ad B0 Lx xs) := by
  intro d y pc L st M Q a b hd hk p e s m args below meth c R H locs cells slots Q' ls C hl hw hq
  exact W.lcmp C.1 C.2.1 hd (hk p e s m args below meth c R H locs cells slots Q' ls C hl hw hq)
theorem sn_sld : zr_sld (WX l dC dI dA ad B0 Lx xs) Lx xs := by
  intro d y pc L st M Q i hd hin hk p e s m args below meth c R H locs cells slots Q' ls C hl hw hq
  have hk := hk p e s m args below meth c R H locs cells slots Q' ls C hl hw hq
  obtain ⟨h1, h2, h3, -⟩ := C.2.2.2.2.2.2
  exact va_sld C.1 C.2.1 h3 (Nat.lt_of_lt_of_le h2 h1) (Nat.not_le_of_lt h2) hw.2.2.2 hin hd hk
theorem sn_slen : zr_slen (WX l dC dI dA ad B0 Lx xs) Lx := by
  intro d y pc L st M Q hd hk p e s m args below meth c R H locs cells slots Q' ls C hl hw hq
  have hk := hk p e s m args below meth c R H locs cells slots Q' ls C hl hw hq
  obtain ⟨h1, h2, h3, -⟩ := C.2.2.2.2.2.2
  exact va_slen C.1 C.2.1 h3 (Nat.lt_of_lt_of_le h2 h1) (Nat.not_le_of_lt h2) hw.2.2.2 hd hk
theorem sn_ldcS : zr_ldcS (WX l dC dI dA ad B0 Lx xs) := by
  intro d y pc L st M Q hd hy hk p e s m args below meth c R H locs cells slots Q' ls C hl hw hq
  have hk := hk p e s m args below meth c R H locs cells slots Q' ls C hl hw hq
  exact va_ldcS C.1 C.2.1 (hy ▸ C.2.2.2.1) C.2.2.2.2.2.2.2.2.2.2.1 hd hk
theorem sn_sval : zr_sval (WX l dC dI dA ad B0 Lx xs) := by
  intro d y pc L st M Q idx hd hlk hk p e s m args below meth c R H locs cells slots Q' ls C hl hw hq
  have hk := hk p e s m args below meth c R H locs cells slots Q' ls C hl hw hq
  obtain ⟨h1, h2, h3, h4, -⟩ := C.2.2.2.2.2.2
  exact vk_getf C.1 C.2.1 (h4.1 0 (by decide)).2.2.1 hw.2.2.2 C.2.2.2.1 (C.2.2.2.2.1 _ hlk) (fun _ h => h) hd hk
theorem sn_scod : zr_scod (WX l dC dI dA ad B0 Lx xs) := by
  intro d y pc L st M Q idx hd hlk hk p e s m args below meth c R H locs cells slots Q' ls C hl hw hq
  have hk := hk p e s m args below meth c R H locs cells slots Q' ls C hl hw hq
  obtain ⟨h1, h2, h3, h4, -⟩ := C.2.2.2.2.2.2
  exact vk_getf C.1 C.2.1 (h4.1 0 (by decide)).2.1 hw.2.2.2 C.2.2.2.1 (C.2.2.2.2.1 _ hlk) (fun _ h => h) hd hk
theorem sn_scmp : zr_scmp (WX l dC dI dA ad B0 Lx xs) := by
  intro d y pc L st M Q idx hd hlk hk p e s m args below meth c R H locs cells slots Q' ls C hl hw hq
  have hk := hk p e s m args below meth c R H locs cells slots Q' ls C hl hw hq
  obtain ⟨h1, h2, h3, h4, h5, h6⟩ := C.2.2.2.2.2.2
  exact va_gets C.1 C.2.1 h6 hw.2.2.2 C.2.2.2.1 (C.2.2.2.2.1 _ hlk) (fun _ h => h) hd hk
theorem sn_sbld : zr_sbld (WX l dC dI dA ad B0 Lx xs) := by
  intro d y pc L st M Q i hd hin hk p e s m args below meth c R H locs cells slots Q' ls C hl hw hq
  have hk := hk p e s m args below meth c R H locs cells slots Q' ls C hl hw hq
  obtain ⟨h1, h2, h3, h4, -⟩ := C.2.2.2.2.2.2
  exact va_tb C.1 C.2.1 (h4.1 0 (by decide)).2.2.2 hw.2.2.2 hin rfl hd hk
theorem sn_sblen : zr_sblen (WX l dC dI dA ad B0 Lx xs) := by
  intro d y pc L st M Q hd hk p e s m args below meth c R H locs cells slots Q' ls C hl hw hq
  have hk := hk p e s m args below meth c R H locs cells slots Q' ls C hl hw hq
  obtain ⟨h1, h2, h3, h4, -⟩ := C.2.2.2.2.2.2
  exact va_tlen C.1 C.2.1 (h4.1 0 (by decide)).2.2.2 hw.2.2.2 rfl hd hk
end
