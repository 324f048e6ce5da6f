/- the end: the law from its entry (head and end of the kit's skeleton, with the launch's flag) -/
def R_law : String := "KeptItemsLaw"
def lw_P (b : Addr) (xs : List Int32) (args : Array Value) (s : State) : Prop := args = #[.ref b] ∧ s.IntsAt b xs ∧ xs.length ≤ 1536 ∧ (Jvm.Cond.and given_1 narrow_1).before args s = true
def lw_Q (_ : Array Value) (s : State) (o : Outcome) (t : State) : Prop := o = .returned (some (.int 1)) ∧ Framed s o t [] 601024 7293034
def lw_Z (below : List Frame) (a : Array Value) (s : State) : State → Prop := fun t => ∃ o, t.status = .running ∧ Ended t below o ∧ lw_Q a s o t
/-- the law's own end, with 1 on the stack, nothing written that was there before, its room as the claim has it -/
theorem lw_ret {p : Program} {l : Launch} {e : Env} {s : State} {m : MethodId} {below : List Frame} {meth : Method} {c : Code} {b : Nat} (hx : p.tables.exec = Jvm.exec) (hb : c.code = code) (hr : meth.sig.returnType = ret) (hlocks : meth.locks = false) {pc : Nat} {H : Heap} {ls : Array Slot} (hdg : decode code pc = .ok (.ireturn, 1)) : W p l e room_1 s m #[Value.ref b] below meth c H [] 601024 7293034 (lw_Z below #[Value.ref b] s) (F0 m pc ls [.int 1]) := by
  intro T hT X
  obtain ⟨fs, hret, hrun, hended, hW, hframe⟩ := X.leave (v := some (.int 1)) (hlocks := hlocks) (fun h => by rw [hr] at h; cases h)
  have hmeth' : T.vm.method? m = some meth := X.method'
  refine ⟨T.setFrames fs, ?_, .returned (some (.int 1)), hrun, hended, rfl, ⟨_, rfl⟩, hW, hframe⟩
  jvm_step X.here [X.here.top, hx, hb, hdg, hmeth', hr, ret, narrow_b1]
  (try refine ⟨rfl, ?_⟩); (try refine ⟨rfl, ?_⟩)
  first | (intro acts; rw [hret _ acts rfl rfl rfl]) | rw [hret _ _ rfl rfl rfl]
  exact Steps.refl _
/-- what holds at the law's entry: the machine, the code, the tables' words (any of lw_tbl by 'hts w (by decide +kernel)'), the script of L ints xs at the cell b, what the Statement gives of the start (any of its parts by flat_of_before) -/
def lw_At (p : Program) (s : State) (m : MethodId) (meth : Method) (c : Code) (b L : Nat) (xs : Nat → Int32) : Prop :=
  p.tables.exec = Jvm.exec ∧ c.code = code ∧ meth.sig.returnType = ret ∧ c.maxLocals = 7 ∧ s.vm.findClass R_law = some m.cls ∧ (∀ w ∈ lw_tbl, w.before #[Value.ref b] s = true) ∧ va_X b L xs s s.heap ∧ b < s.heap.size ∧ meth.locks = false ∧ (Jvm.Cond.and given_1 narrow_1).before #[Value.ref b] s = true
def zL0 : Nat → Value := fun i => match i with
  | 0 => .ref 1000
  | 1 => .ref 0
  | 2 => .ref 25
  | 3 => .ref 53
  | 4 => .int (nI 0)
  | _ => .null
theorem zD0 {A : Nat → Prop} : va_D A [] := by
  exact ⟨fun i j p q h => by simp at h, fun k q h => by simp at h⟩
set_option maxRecDepth 100000 in
set_option maxHeartbeats 8000000 in
theorem whole_start {p : Program} {e : Env} {s : State} {m : MethodId} {below : List Frame} {meth : Method} {c : Code} (l : Launch) (hl0 : l.stackTraces = false) {b L : Nat} {xs : Nat → Int32} (hL : L ≤ 1536) (C0 : lw_At p s m meth c b L xs) : W p l e room_1 s m #[Value.ref b] below meth c s.heap [] 0 0 (lw_Z below #[Value.ref b] s) (entryFrame m ([Value.ref b] : List Value).toArray 7) := by
  obtain ⟨hx, hb, hr, hml, hown, htsA, hX, hbl, hlocks, hgv⟩ := C0
  have hts : ∀ w ∈ zT, w.before #[Value.ref b] s = true := fun w hw => htsA w (List.mem_filter.mp hw).1
  have hb : c.code = mW_law.2.1 := hb
  have hown : s.vm.findClass "KeptItemsLaw" = some m.cls := hown
  obtain ⟨dC, dI, dA, hK⟩ := zK_of hts
  obtain ⟨⟨s1, s2, hEnv⟩, hEx⟩ := zenv_of htsA hX hbl hgv
  have hA : ∀ q : Nat, s.heap.size ≤ q → zA s.heap.size q := fun q h => h
  have hS : va_S (zA s.heap.size) s.heap s.heap [] := va_S.rf
  have hP : va_P (dC, dI) zcl [] s.heap := fun k q hk => by cases hk
  have hD : va_D (zA s.heap.size) [] := zD0
  have hn0 : va_Nw (.methodLinkNest "KeptItems" 15 ⟨"KeptItems$Reading", "<init>", "()V"⟩ "KeptItems") s := va_Nw.of rfl (htsA _ (List.mem_append_right _ (List.mem_of_getElem? (i := 29) (by decide +kernel))))
  have hn1 : va_Nw (.methodLinkNest "KeptItems$Reading" 11 ⟨"KeptItems$Source", "<init>", "()V"⟩ "KeptItems") s := va_Nw.of rfl (htsA _ (List.mem_append_right _ (List.mem_of_getElem? (i := 35) (by decide +kernel))))
  have hn2 : va_Nw (.methodLinkNest "KeptItems$Reading" 20 ⟨"KeptItems$Tree", "<init>", "()V"⟩ "KeptItems") s := va_Nw.of rfl (htsA _ (List.mem_append_right _ (List.mem_of_getElem? (i := 66) (by decide +kernel))))
  have hlv := lv_entry ([.ref b]) (n := 7) (Nat.le_of_ble_eq_true rfl)
  rw [lg_entry_eq]
  generalize (lg_sl ([.ref b]) ++ List.replicate (7 - (lg_sl ([.ref b])).length) Slot.unset).toArray = ls at hlv ⊢
  have hlv : lv_has ls 7 [(0, .ref b)] := hlv
  refine va_new (ci := 0) (fs := [.null, .int 0, .null, .null, .null, .int 0, .int 0]) (C := "KeptItems") (T := zF_K) (N := 7) hx hb hts zy_K zt_K zt_K_ok hown (hts (.classLink "KeptItemsLaw" 8 "KeptItems") (zin 19 (by decide +kernel) (by decide +kernel))) (hts (.instantiable "KeptItems" 7) (zin 20 (by decide +kernel) (by decide +kernel))) (hts (.initialized "KeptItems") (zin 1 (by decide +kernel) (by decide +kernel))) hK hP hD hS hA rfl zd_K (Nat.le_of_ble_eq_true rfl) (Nat.le_of_ble_eq_true rfl) dW_law_0 (fun q0 H hP hD hS => ?_)
  have hP : va_P (dC, dI) zcl [(q0, .inr (0, [.null, .int 0, .null, .null, .null, .int 0, .int 0]))] H := hP
  have hD : va_D (zA s.heap.size) [(q0, .inr (0, [.null, .int 0, .null, .null, .null, .int 0, .int 0]))] := hD
  refine W.widen (k := 1) (n := 7) (by omega) (by omega) ?_
  refine lv_dup hx hb dW_law_3 rfl ?_
  have hPc := hP.sub (ws' := [(q0, .inr (0, [.null, .int 0, .null, .null, .null, .int 0, .int 0]))]) [0] rfl
  have hDc := hD.sub (ws' := [(q0, .inr (0, [.null, .int 0, .null, .null, .null, .int 0, .int 0]))]) [0] (by decide) rfl
  have hFc := va_free (wc := [(q0, .inr (0, [.null, .int 0, .null, .null, .null, .int 0, .int 0]))]) hD hS hA [0] rfl
  refine va_callv (va_runI (As := []) (rest := [.ref q0]) ⟨hx, hb, hml, hown, hts⟩ (c_K_init l dC dI dA q0 H.size) (cwI 0 hts (zgood_w wl_K) rfl rfl rfl (hts (.initialized "KeptItems") (zin 1 (by decide +kernel) (by decide +kernel))) (hts (.methodLink "KeptItemsLaw" 30 ⟨"KeptItems", "<init>", "()V"⟩) (zin 21 (by decide +kernel) (by decide +kernel))) (hts (.instanceMethod ⟨"KeptItems", "<init>", "()V"⟩) (zin 22 (by decide +kernel) (by decide +kernel))) rfl (by decide +kernel) ⟨(Nat.le_of_ble_eq_true rfl), (Nat.le_of_ble_eq_true rfl)⟩) ⟨fun a U g mk q => by obtain ⟨q0, q1, qP, qK, qD, q0n, q1n, q2n⟩ := q; exact ⟨q0, q1, qP, va_K.moved (u := U) (U := U.calling g mk a) (Vm.Alike.refl U.vm) qK, qD, va_Nw.same (u := U) (U := U.calling g mk a) rfl rfl q0n, va_Nw.same (u := U) (U := U.calling g mk a) rfl rfl q1n, va_Nw.same (u := U) (U := U.calling g mk a) rfl rfl q2n⟩, fun U hU hW => ⟨rfl, by rw [hU], by rw [hU]; exact hPc, va_K.moved hW.alike hK, hDc.weaken (fun _ _ _ _ => trivial), va_Nw.warmM hW hn0, va_Nw.warmM hW hn1, va_Nw.warmM hW hn2⟩⟩ rfl rfl hlv.1 rfl (lv_room (Nat.le_of_ble_eq_true rfl)) dW_law_4 ⟨(Nat.le_of_ble_eq_true rfl), (Nat.le_of_ble_eq_true rfl)⟩) hS (fun q _ h => hFc q h) hFc (fun u t H1 locs ht hvm _ hB hz1 hk1 hS => ?_)
  obtain ⟨hP1, hD1⟩ := hB
  rw [ht] at hP1
  obtain ⟨hP, hD⟩ := va_join (wr := []) (w1 := cK dA q0 u) hP hD [0] [] rfl rfl (by decide) (by decide) hk1 hFc hP1 hD1
  generalize H1 = H at hP hS ⊢
  have hP : va_P (dC, dI) zcl (cK dA q0 u) H := hP
  have hD : va_D (zA s.heap.size) (cK dA q0 u) := hD
  refine W.widen (k := 25) (n := 2797) (by omega) (by omega) ?_
  refine lv_astore_n hx hb dW_law_7 rfl hlv (by decide) rfl (fun ls hlv => ?_)
  have hlv : lv_has ls 7 [(1, .ref q0), (0, .ref b)] := hlv
  refine va_new (ci := 4) (fs := [.int 0, .int 0, .null, .int 0, .null, .int 0, .null, .null, .null, .int 0, .null, .null, .null, .null, .int 0, .int 0, .null, .null, .null, .null, .null, .null, .null, .int 0, .null, .null, .null, .int 0, .int 0, .int 0, .int 0, .null, .int 0, .int 0, .null, .int 0, .int 0, .null, .null, .null, .null, .null, .null]) (C := "KeptItemsModel") (T := zF_M) (N := 43) hx hb hts zy_M zt_M zt_M_ok hown (hts (.classLink "KeptItemsLaw" 31 "KeptItemsModel") (zin 525 (by decide +kernel) (by decide +kernel))) (hts (.instantiable "KeptItemsModel" 43) (zin 526 (by decide +kernel) (by decide +kernel))) (hts (.initialized "KeptItemsModel") (zin 5 (by decide +kernel) (by decide +kernel))) hK hP hD hS hA rfl zd_M (Nat.le_of_ble_eq_true rfl) (Nat.le_of_ble_eq_true rfl) dW_law_8 (fun q8 H hP hD hS => ?_)
  have hP : va_P (dC, dI) zcl (cK dA q0 u ++ [(q8, .inr (4, [.int 0, .int 0, .null, .int 0, .null, .int 0, .null, .null, .null, .int 0, .null, .null, .null, .null, .int 0, .int 0, .null, .null, .null, .null, .null, .null, .null, .int 0, .null, .null, .null, .int 0, .int 0, .int 0, .int 0, .null, .int 0, .int 0, .null, .int 0, .int 0, .null, .null, .null, .null, .null, .null]))]) H := hP
  have hD : va_D (zA s.heap.size) (cK dA q0 u ++ [(q8, .inr (4, [.int 0, .int 0, .null, .int 0, .null, .int 0, .null, .null, .null, .int 0, .null, .null, .null, .null, .int 0, .int 0, .null, .null, .null, .null, .null, .null, .null, .int 0, .null, .null, .null, .int 0, .int 0, .int 0, .int 0, .null, .int 0, .int 0, .null, .int 0, .int 0, .null, .null, .null, .null, .null, .null]))]) := hD
  refine W.widen (k := 26) (n := 2840) (by omega) (by omega) ?_
  refine lv_dup hx hb dW_law_11 rfl ?_
  have hPc := hP.sub (ws' := [(q8, .inr (4, [.int 0, .int 0, .null, .int 0, .null, .int 0, .null, .null, .null, .int 0, .null, .null, .null, .null, .int 0, .int 0, .null, .null, .null, .null, .null, .null, .null, .int 0, .null, .null, .null, .int 0, .int 0, .int 0, .int 0, .null, .int 0, .int 0, .null, .int 0, .int 0, .null, .null, .null, .null, .null, .null]))]) [25] rfl
  have hDc := hD.sub (ws' := [(q8, .inr (4, [.int 0, .int 0, .null, .int 0, .null, .int 0, .null, .null, .null, .int 0, .null, .null, .null, .null, .int 0, .int 0, .null, .null, .null, .null, .null, .null, .null, .int 0, .null, .null, .null, .int 0, .int 0, .int 0, .int 0, .null, .int 0, .int 0, .null, .int 0, .int 0, .null, .null, .null, .null, .null, .null]))]) [25] (by decide) rfl
  have hFc := va_free (wc := [(q8, .inr (4, [.int 0, .int 0, .null, .int 0, .null, .int 0, .null, .null, .null, .int 0, .null, .null, .null, .null, .int 0, .int 0, .null, .null, .null, .null, .null, .null, .null, .int 0, .null, .null, .null, .int 0, .int 0, .int 0, .int 0, .null, .int 0, .int 0, .null, .int 0, .int 0, .null, .null, .null, .null, .null, .null]))]) hD hS hA [25] rfl
  refine va_callv (va_runI (As := []) (rest := [.ref q8]) ⟨hx, hb, hml, hown, hts⟩ (c_M_init l dC dI dA q8 H.size) (cwI 0 hts (zgood_w wl_M) rfl rfl rfl (hts (.initialized "KeptItemsModel") (zin 5 (by decide +kernel) (by decide +kernel))) (hts (.methodLink "KeptItemsLaw" 33 ⟨"KeptItemsModel", "<init>", "()V"⟩) (zin 527 (by decide +kernel) (by decide +kernel))) (hts (.instanceMethod ⟨"KeptItemsModel", "<init>", "()V"⟩) (zin 528 (by decide +kernel) (by decide +kernel))) rfl (by decide +kernel) ⟨(Nat.le_of_ble_eq_true rfl), (Nat.le_of_ble_eq_true rfl)⟩) ⟨fun a U g mk q => by obtain ⟨q0, q1, qP, qK, qD⟩ := q; exact ⟨q0, q1, qP, va_K.moved (u := U) (U := U.calling g mk a) (Vm.Alike.refl U.vm) qK, qD⟩, fun U hU hW => ⟨rfl, by rw [hU], by rw [hU]; exact hPc, va_K.moved hW.alike hK, hDc.weaken (fun _ _ _ _ => trivial)⟩⟩ rfl rfl hlv.1 rfl (lv_room (Nat.le_of_ble_eq_true rfl)) dW_law_12 ⟨(Nat.le_of_ble_eq_true rfl), (Nat.le_of_ble_eq_true rfl)⟩) hS (fun q _ h => hFc q h) hFc (fun v t H1 locs ht hvm _ hB hz1 hk1 hS => ?_)
  obtain ⟨hP1, hD1⟩ := hB
  rw [ht] at hP1
  obtain ⟨hP, hD⟩ := va_join (wr := cK dA q0 u) (w1 := cM dA q8 v) hP hD [25] [0, 1, 2, 3, 4, 5, 6, 7, 8, 9, 10, 11, 12, 13, 14, 15, 16, 17, 18, 19, 20, 21, 22, 23, 24] rfl rfl (by decide) (by decide) hk1 hFc hP1 hD1
  generalize H1 = H at hP hS ⊢
  have hP : va_P (dC, dI) zcl (cK dA q0 u ++ cM dA q8 v) H := hP
  have hD : va_D (zA s.heap.size) (cK dA q0 u ++ cM dA q8 v) := hD
  refine W.widen (k := 53) (n := 5882) (by omega) (by omega) ?_
  refine lv_astore_n hx hb dW_law_15 rfl hlv (by decide) rfl (fun ls hlv => ?_)
  have hlv : lv_has ls 7 [(2, .ref q8), (1, .ref q0), (0, .ref b)] := hlv
  refine lv_iconst (v := 1) hx hb dW_law_16 (by decide) ?_
  refine va_newa (atype := .long) (N' := 1) hx hb (hts _ wa_long) (ty := .long) rfl hK hP hD hS hA (a0 := (1, .inr (.inl (fun j => if j = 0 then 0 else 0)))) (fun cA => ?_) (by decide) (by decide) (by decide) (Nat.le_of_ble_eq_true rfl) (Nat.le_of_ble_eq_true rfl) dW_law_17 (fun q17 cA H hK1 hP hD hS => ?_)
  · show arrV cA 1 (fun j => Value.long (if j = 0 then 0 else 0)) = arrV cA 1 (fun _ => Value.long 0)
    congr 1
    funext j
    split <;> rfl
  have hcA : dA 3 = cA := by
    have h1 := (hK1.2 4 (cA, .long) rfl).2
    have h2 := (hK1.2 3 (dA 3, .long) rfl).2
    exact Option.some.inj ((show s.vm.findClass ("[" ++ (FieldType.long).toString) = some (dA 3) from h2).symm.trans (show s.vm.findClass ("[" ++ (FieldType.long).toString) = some cA from h1))
  subst hcA
  refine W.widen (k := 54) (n := 5883) (by omega) (by omega) ?_
  refine lv_astore_n hx hb dW_law_19 rfl hlv (by decide) rfl (fun ls hlv => ?_)
  have hlv : lv_has ls 7 [(3, .ref q17), (2, .ref q8), (1, .ref q0), (0, .ref b)] := hlv
  refine lv_iconst (v := nI 0) hx hb dW_law_20 (by decide) ?_
  refine lv_istore hx hb dW_law_21 hlv (by decide) rfl (fun ls hlv => ?_)
  have hlv : lv_has ls 7 [(4, .int (nI 0)), (3, .ref q17), (2, .ref q8), (1, .ref q0), (0, .ref b)] := hlv
  rw [List.append_assoc] at hP hD
  have hl7 : zl (zad q0 u q8 v q17 b s1 s2) ls 7 zL0 := ⟨lv_sub hlv [4, 3, 2, 1, 0] rfl, fun i hi => by
    match i, hi with
    | i + 7, _ => rfl⟩
  exact l_loop (Lx := L) (xs := xs) (dC := dC) (dI := dI) (dA := dA) (ad := zad q0 u q8 v q17 b s1 s2) (B0 := s.heap.size) hl0 hL 512 0 0 zL0 zM0 ⟨rfl, rfl, rfl, rfl, rfl⟩ (by omega) (by omega) (by omega) zInv0 p e s m _ below meth c room_1 H _ 54 5883 _ ls ⟨hx, hb, hml, hown, hts, ⟨by decide, by decide, by decide, by decide⟩, hEnv _ rfl rfl rfl⟩ hEx hl7 ⟨hK, by rw [zw0]; exact hP, by rw [zw0]; exact hD, hS⟩ (fun pc' L' st' M' H' locs' ls' hQ hl' hw' => by
    obtain ⟨rfl, rfl⟩ := hQ
    exact va_forget (fun q hq => hw'.2.2.2.2.2 q hq) (W.widen (by decide) (by decide) (lw_ret hx hb hr hlocks dW_law_620)))
set_option maxHeartbeats 4000000 in
theorem lw_walk (l : Launch) (hl0 : l.stackTraces = false) (b : Addr) (xs : List Int32) : MetFree l x (headSpec (Jvm.Cond.code x code maxLocals ret :: tables_1) room_1) (lw_P b xs) (fun _ _ _ _ _ => True) lw_Q := by
  refine MetFree.of_bodyS (code := code) (maxLocals := maxLocals) (ret := ret) (by decide) ?_ ?_
  · intro args s m h hn
    obtain ⟨meth, c, h1, h2, h3, h4, h5, h6, -, -⟩ := Cond.code_spec hn (atoms_spec (ws := Jvm.Cond.code x code maxLocals ret :: tables_1) h _ List.mem_cons_self)
    exact ⟨meth, c, h1, h2, h3, h4, h5, h6⟩
  · intro p e s m args below meth c s₁ B hml0 hP _
    obtain ⟨rfl, hx, hbd, hgv⟩ := hP
    obtain ⟨scr, harrAt, hlist, hof, hsmall⟩ := hx
    obtain ⟨hcb, hkn, -, -⟩ := State.arrayAt?_spec harrAt
    have hown : s.vm.findClass R_law = some m.cls := findClass_of_methodNamed B.named
    have hts0 : ∀ c ∈ (Jvm.Cond.code x code maxLocals ret :: tables_1), c.before #[Value.ref b] s = true := atoms_spec (ws := Jvm.Cond.code x code maxLocals ret :: tables_1) B.pre
    have hts : ∀ w ∈ lw_tbl, w.before #[Value.ref b] s = true := k2_hts_sels lw_privs (fun w hw => hts0 w (List.mem_cons_of_mem _ hw)) lw_privs_ok
    have hml : c.maxLocals = 7 := B.maxLocals_eq (hts0 _ List.mem_cons_self)
    have X₀ : Stand p l e room_1 s m #[Value.ref b] below meth c s₁ [] 0 0 := Stand.of_body B
    have hh0 : s₁.heap = s.heap := by rw [B.state]; rfl
    have hsz : scr.slots.size = xs.length := by rw [← Array.length_toList, hlist, List.length_map]
    have hval : ∀ j : Nat, j < xs.length → scr.slots[j]? = some (.int (xs.getD j 0)) := fun j hj => by
      rw [← Array.getElem?_toList, hlist]
      simp [hj]
    have hbl : b < s.heap.size := (Array.getElem?_eq_some_iff.mp hcb).1
    have hX : va_X b xs.length (fun j => xs.getD j 0) s s.heap := ⟨scr, hcb, hof, hkn, hsz, hval⟩
    have K : W p l e room_1 s m #[Value.ref b] below meth c s₁.heap [] 0 0 (lw_Z below #[Value.ref b] s) (entryFrame m ([Value.ref b] : List Value).toArray 7) := by
      rw [hh0]
      exact whole_start l hl0 hbd ⟨B.exec, B.bytes, B.returns, hml, hown, hts, hX, hbl, B.notSynchronized, hgv⟩
    obtain ⟨t, a1, o, b1, b2, b3⟩ := K s₁ rfl X₀
    exact ⟨t, o, a1, b1, b2, b3⟩
theorem lw_pre_spec {args : Array Value} {s : State} (h : (Jvm.Cond.and given_1 narrow_1).before args s = true) (hr : rest_1_c.before args s = true) : ∃ (b : Addr) (xs : List Int32), lw_P b xs args s := by
  have hs := flat_of_before _ h
  have hq := flat_of_before _ hr
  have hc : (Cond.count 1).before args s = true := hs _ (by decide +kernel)
  have harr : (Cond.arrayOf (.arg 0) .int).before args s = true := hs _ (by decide +kernel)
  have hle : (Cond.le (.length (.arg 0)) (.int 1536)).before args s = true := hs _ (by decide +kernel)
  have hlen : (Cond.isInt (.length (.arg 0))).before args s = true := hq _ (by decide +kernel)
  have hall : (Cond.all (.arg 0) (.isInt (.elem (.arg 0) (.index 0)))).before args s = true := hq _ (by decide +kernel)
  obtain ⟨b, xs, hb, hx⟩ := State.ints_of_pre rfl harr hlen hall
  have hsm : xs.length < 2 ^ 31 := hx.choose_spec.2.2.2
  have hev : (Term.length (.arg 0)).eval args s none [] s = some (.int xs.length.toInt32) := hx.length_eval hb
  have hv := Cond.le_ints hev (show (Term.int 1536).eval args s none [] s = some (.int 1536) from rfl)
  have hd : xs.length.toInt32 ≤ 1536 := by
    simpa [Cond.before, Cond.holds, hv] using hle
  have hN : xs.length ≤ 1536 := (Int32.ofNat_le_ofNat hsm (by decide)).mp (show Int32.ofNat xs.length ≤ Int32.ofNat 1536 from hd)
  exact ⟨b, xs, Cond.one_arg hc (show args[0]? = some (.ref b) from hb), hx, hN, h⟩
theorem lw_comes (l : Launch) (hl0 : l.stackTraces = false) : Comes l x (Jvm.Cond.code x code maxLocals ret :: tables_1) room_1 (fun tb e args s => Calls_1 tb e args s ∧ rest_1 tb e args s ∧ Pre_1 tb e args s)
    (fun _ _ args s o t => lw_Q args s o t) := by
  intro p e ha hc hk s m args below hf hfit hheap happ hpre
  obtain ⟨b, xs, hP⟩ := lw_pre_spec hpre.2.2 hpre.2.1
  obtain ⟨k, o, h1, h2, h3, hQ⟩ := lw_walk l hl0 b xs p e ha hc hk s m args below hf ((Spec.applies_iff_loose hf).mp happ).1 hP trivial
  exact ⟨k, o, h1, h2, h3, hQ⟩
theorem lw_frame {s t : State} {o : Outcome} {args : Array Value} (h : Framed s o t [] 601024 7293034) :
    Framed s o t (fieldLocs frame_1_writes args s ++ arrayLocs frame_1_arrays args s ++ staticLocs frame_1_statics s) 601024 7293034 := h
theorem lw_limb (L : Cond) (hL : ∀ (args : Array Value) (s t : State), L.after args s (.returned (some (.int 1))) t = true) :
    ArmFor flags0 classFile x code maxLocals ret World_1 tables_1 room_1 Calls_1 rest_1 Pre_1
      (fun tb e a s o t => postC L tb e a s o t ∧ Framed s o t (fieldLocs frame_1_writes a s ++ arrayLocs frame_1_arrays a s ++ staticLocs frame_1_statics s) 601024 7293034) := by
  intro l hflags _ _ p e ha hc hk s m args below hf hfit hheap happ hpre
  obtain ⟨k, o, h1, h2, h3, rfl, hF⟩ := lw_comes l (by unfold Launch.stackTraces; rw [hflags]; decide) p e ha hc hk s m args below hf hfit hheap happ hpre
  exact ⟨k, _, h1, h2, h3, hL args s _, lw_frame hF⟩
theorem i_vc : Claimed_1_1 ∧ Claimed_1_2 := ⟨lw_limb limb_1_1 (fun args s t => by simp [limb_1_1, Cond.after, Cond.holds, Cond.value]), lw_limb limb_1_2 (fun args s t => Cond.after_iff.mpr (by
  first | (rw [show limb_1_2 = Cond.eq .result (.int 1) from rfl, Cond.eq_ints (x := 1) (y := 1) rfl rfl]; simp; done) | (simp [limb_1_2, Cond.value, Term.eval]; done)))⟩

