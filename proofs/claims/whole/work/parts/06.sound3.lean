section
variable {l : Launch} {dC : Nat → ClassId} {dI : Nat → Nat → Nat} {dA : Nat → ClassId} {ad : Nat → Nat} {B0 Lx : Nat} {xs : Nat → Int32}
theorem sn_copy : zr_copy (WX l dC dI dA ad B0 Lx xs) := by
  intro d y pc L st M Q idx t o n o' n' sp dp k hd hlk ho ho' ht h4 h5 hfit hst hk p e s m args below meth c R H locs cells slots Q' ls C hl hw hq
  have hk := fun H' locs' hw' => hk p e s m args below meth c R H' locs' cells slots Q' ls C hl hw' hq
  obtain ⟨hx, hb, hml, hown, hts, ⟨hR1, hR2, -, -⟩, -⟩ := C
  have hbo := zsh_len ho
  have hbo' := zsh_len ho'
  have c1 : (nI sp).toNatClampNeg = sp := nI_clamp (by omega)
  have c2 : (nI dp).toNatClampNeg = dp := nI_clamp (by omega)
  have c3 : (nI k).toNatClampNeg = k := nI_clamp (by omega)
  have ht3 : t ≠ 3 := by rcases ht with rfl | rfl <;> decide
  have hty : (ztys dA)[t]? = some (dA t, ztt t) := by rcases ht with rfl | rfl <;> rfl
  refine va_copyi hx hb (hml.trans hl.1.1.symm) hown (hts _ hlk) (hts _ zcp_nat) (hts _ zcp_st) (hts _ zcp_ini) hw.1 hw.2.1 hw.2.2.1 hw.2.2.2 o o' t t (zE_arr ho ht3) (zE_arr ho' ht3) hty hty (by rcases ht with rfl | rfl <;> rfl) (nI_pos (by omega)) (nI_pos (by omega)) (nI_pos (by omega)) (by rw [c1, c3]; exact h4) (by rw [c2, c3]; exact h5) (by rw [c1, c3]; exact hfit) (by omega) ?_ hd (fun H1 locs1 hP1 hD1 hS1 => hk H1 locs1 ?_)
  · rw [zcat_map]
    have := zcp_words
    omega
  · rw [c1, c2, c3, zw_C ho' ht3] at hP1 hD1
    exact ⟨hw.1, hP1, hD1, hS1⟩
theorem sn_max : zr_max (WX l dC dI dA ad B0 Lx xs) := by
  intro d y pc L st M Q idx a b hd hlk hst hk p e s m args below meth c R H locs cells slots Q' ls C hl hw hq
  have hk := hk p e s m args below meth c R H locs cells slots Q' ls C hl hw hq
  obtain ⟨hx, hb, hml, hown, hts, ⟨hR1, hR2, hR3, hR4⟩, -⟩ := C
  refine va_mmax hx hb (hml.trans hl.1.1.symm) hown (hts _ hlk) (hts _ zmx_st) (hts _ zmx_ini) (hts _ zmx_co) (by omega) ?_ hR3 hR4 hd hk
  rw [zcat_map]; omega
theorem sn_min : zr_min (WX l dC dI dA ad B0 Lx xs) := by
  intro d y pc L st M Q idx a b hd hlk hst hk p e s m args below meth c R H locs cells slots Q' ls C hl hw hq
  have hk := hk p e s m args below meth c R H locs cells slots Q' ls C hl hw hq
  obtain ⟨hx, hb, hml, hown, hts, ⟨hR1, hR2, hR3, hR4⟩, -⟩ := C
  refine va_mmin hx hb (hml.trans hl.1.1.symm) hown (hts _ hlk) (hts _ zmn_st) (hts _ zmx_ini) (hts _ zmn_co) (by omega) ?_ hR3 hR4 hd hk
  rw [zcat_map]; omega
def zws (k : zY) : List Jvm.Cond := Jvm.Cond.code k.1 k.2.1 k.2.2.1 k.2.2.2 :: zT
def zPc (dC : Nat → ClassId) (dI : Nat → Nat → Nat) (dA : Nat → ClassId) (ad : Nat → Nat) (B0 Lx : Nat) (xs : Nat → Int32) (As : List Value) (M : zM) : Array Value → State → Prop := va_Pc (As.map (zv ad)) (fun U => zEnv ad B0 Lx xs U U.heap ∧ va_K (dC, dI) zcl (ztys dA) U ∧ va_P (dC, dI) zcl (zw dA ad M) U.heap ∧ va_D (zA B0) (zw dA ad M))
def zB (dC : Nat → ClassId) (dI : Nat → Nat → Nat) (dA : Nat → ClassId) (ad : Nat → Nat) (B0 : Nat) (u : zM) (t : State) : Prop := va_P (dC, dI) zcl (zw dA ad u) t.heap ∧ va_D (zA B0) (zw dA ad u)
def zrm (d : Nat) : Room := { frames := d, cells := 0, slots := 0, locals := 64 * d }
theorem met_i {d : Nat} {k : zY} {As : List Value} {M : zM} {R : Option Int32 → zM → Prop} {ty : FieldType} (hr : k.2.2.2 = some ty) (hpl : plainName k.1.cls = true) (hc : ∀ v ∈ As, v.category = 1) (hn : As.length ≤ k.2.2.1) (h : WX l dC dI dA ad B0 Lx xs d k 0 (zarg As) [] M (fun pc' _ st' M' => ∃ o, zEnd k pc' st' o ∧ R o M')) : Met l k.1 (zws k) (zrm d) (zPc dC dI dA ad B0 Lx xs As M) (va_Qi (fun r u => R (some r) u) (zB dC dI dA ad B0) (zA B0)) 0 0 (zA B0) := by
  refine Met.ofW (cc := k.2.1) (maxL := k.2.2.1) (ret := k.2.2.2) hpl rfl ?_
  intro p e s m args below meth c s₁ B hml hv
  obtain ⟨rfl, hE, hK, hP, hD⟩ := hv
  have hts := atoms_spec (ws := zws k) B.pre
  have hlocks := B.notSynchronized
  rw [lg_entry_eq]
  refine h p e s m _ below meth c _ s.heap [] 0 0 _ _ ⟨B.exec, B.bytes, hml, findClass_of_methodNamed B.named, fun w hw => hts w (List.mem_cons_of_mem _ hw), ⟨Nat.le_refl _, Nat.le_refl _, Nat.le_refl _, Nat.le_refl _⟩, hE⟩ (zl_entry As hc hn) ⟨hK, hP, hD, va_S.rf⟩ ?_
  intro pc' L' st' M' H' locs' ls' hQ hl' hw'
  obtain ⟨o, he, hR⟩ := hQ
  cases o with
  | none => exact absurd (hr.symm.trans he.2.2) (by simp)
  | some x =>
    obtain ⟨hd', hst, ty', hty', hn'⟩ := he
    subst hst
    exact W.zret B.exec B.bytes (B.returns.trans hty') hn' (fun t ht hW => ⟨⟨x, M', rfl, hR, by rw [ht]; exact hw'.2.1, hw'.2.2.1⟩, hw'.2.2.2.F ht⟩) hw'.2.2.2.2.2 hd'
theorem met_v {d : Nat} {k : zY} {As : List Value} {M : zM} {R : Option Int32 → zM → Prop} (hr : k.2.2.2 = none) (hpl : plainName k.1.cls = true) (hc : ∀ v ∈ As, v.category = 1) (hn : As.length ≤ k.2.2.1) (h : WX l dC dI dA ad B0 Lx xs d k 0 (zarg As) [] M (fun pc' _ st' M' => ∃ o, zEnd k pc' st' o ∧ R o M')) : Met l k.1 (zws k) (zrm d) (zPc dC dI dA ad B0 Lx xs As M) (va_Qv (fun u => R none u) (zB dC dI dA ad B0) (zA B0)) 0 0 (zA B0) := by
  refine Met.ofW (cc := k.2.1) (maxL := k.2.2.1) (ret := k.2.2.2) hpl rfl ?_
  intro p e s m args below meth c s₁ B hml hv
  obtain ⟨rfl, hE, hK, hP, hD⟩ := hv
  have hts := atoms_spec (ws := zws k) B.pre
  have hlocks := B.notSynchronized
  rw [lg_entry_eq]
  refine h p e s m _ below meth c _ s.heap [] 0 0 _ _ ⟨B.exec, B.bytes, hml, findClass_of_methodNamed B.named, fun w hw => hts w (List.mem_cons_of_mem _ hw), ⟨Nat.le_refl _, Nat.le_refl _, Nat.le_refl _, Nat.le_refl _⟩, hE⟩ (zl_entry As hc hn) ⟨hK, hP, hD, va_S.rf⟩ ?_
  intro pc' L' st' M' H' locs' ls' hQ hl' hw'
  obtain ⟨o, he, hR⟩ := hQ
  cases o with
  | some x => obtain ⟨-, -, ty', hty', -⟩ := he; exact absurd (hr.symm.trans hty') (by simp)
  | none =>
    obtain ⟨hd', hst, hty'⟩ := he
    subst hst
    exact W.vret B.exec B.bytes (B.returns.trans hty') (fun t ht hW => ⟨⟨M', rfl, hR, by rw [ht]; exact hw'.2.1, hw'.2.2.1⟩, hw'.2.2.2.F ht⟩) hw'.2.2.2.2.2 hd'
theorem zPc_blind {As : List Value} {M : zM} : FrameBlind (zPc dC dI dA ad B0 Lx xs As M) := by
  intro a U g mk q
  obtain ⟨q0, ⟨e1, e2, e3, e4, e5, e6⟩, qK, qP, qD⟩ := q
  exact ⟨q0, ⟨e1, e2, va_X.moved (u := U) (U := U.calling g mk a) (Vm.Alike.refl U.vm) e3, vk_S.moved (u := U) (U := U.calling g mk a) (Vm.Alike.refl U.vm) e4, vk_R.same (u := U) (U := U.calling g mk a) rfl e5, va_Z.moved (u := U) (U := U.calling g mk a) (Vm.Alike.refl U.vm) e6⟩, va_K.moved (u := U) (U := U.calling g mk a) (Vm.Alike.refl U.vm) qK, qP, qD⟩
theorem zPc_at {As : List Value} {M : zM} {s : State} {H : Heap} {locs : List Loc} (hE : zEnv ad B0 Lx xs s s.heap) (hw : zWd dC dI dA ad B0 s H M locs) (U : State) (hU : U.heap = H) (hW : s.WarmedH U.vm) : zPc dC dI dA ad B0 Lx xs As M (As.map (zv ad)).toArray U :=
  ⟨rfl, hE.next hw.2.2.2 hU hW, va_K.moved hW.alike hw.1, by rw [hU]; exact hw.2.1, hw.2.2.1⟩
theorem zgood_S {own : String} {idx n : Nat} {k : zY} (h : zLkS own idx k n) : GoodIn zT (va_wsS own idx k.1 (zws k)) := by
  obtain ⟨⟨⟨h1, h2, h3⟩, -⟩, h4⟩ := h
  intro w hw
  have hm : w ∈ zT := by
    simp only [va_wsS, zws, List.mem_append, List.mem_cons, List.not_mem_nil, or_false] at hw
    rcases hw with (rfl | rfl | rfl) | rfl | hw <;> assumption
  exact ⟨hm, zT_good w hm⟩
theorem zgood_V {own : String} {idx n : Nat} {k : zY} (h : zLkV own idx k n) : GoodIn zT (wsV own idx k.1.cls k.1 (zws k)) := by
  obtain ⟨⟨⟨h1, h2, h3⟩, -⟩, h4, h5⟩ := h
  intro w hw
  have hm : w ∈ zT := by
    simp only [wsV, zws, List.mem_append, List.mem_cons, List.not_mem_nil, or_false] at hw
    rcases hw with (rfl | rfl | rfl | rfl) | rfl | hw <;> assumption
  exact ⟨hm, zT_good w hm⟩
theorem sn_callS : zr_callS (WX l dC dI dA ad B0 Lx xs) := by
  intro d y pc L st M Q idx k As R hd hlk hcat hlen hst hcal hk p e s m args below meth c RR H locs cells slots Q' ls C hl hw hq
  have C0 := C
  obtain ⟨hx, hb, hml, hown, hts, ⟨hR1, hR2, hR3, hR4⟩, hE⟩ := C
  have hlk2 := hlk
  obtain ⟨⟨-, hpl, hd3, hmx⟩, -⟩ := hlk2
  have hstk : (As.reverse ++ st).map (zv ad) = (As.map (zv ad)).reverse ++ st.map (zv ad) := by rw [List.map_append, List.map_reverse]
  rw [hstk]
  have hrm : (zrm d).frames + 1 ≤ RR.frames ∧ 8 + (k.2.2.1 + 11) + (zrm d).locals ≤ RR.locals := ⟨hR1, by show 8 + (k.2.2.1 + 11) + 64 * d ≤ RR.locals; omega⟩
  have hroom : ((st.map (zv ad)).map fun v => v.category).sum ≤ 8 := by rw [zcat_map]; exact hst
  cases hret : k.2.2.2 with
  | none =>
    refine va_callv (va_runS (As := As.map (zv ad)) (rest := st.map (zv ad)) ⟨hx, hb, hml, hown, hts⟩ (met_v hret hpl hcat hlen hcal) (va_cwS (rm := zrm d) As.length hts (zgood_S hlk) rfl rfl rfl hd3 hrm) ⟨zPc_blind, fun U hU hW => zPc_at hE hw U hU hW⟩ rfl (by simp) hl.1.1 rfl (lv_room hroom) hd ⟨hR3, hR4⟩) hw.2.2.2 (fun q _ h => h) (fun q h => h) (fun u t H1 locs1 ht hvm hpost hB hz hkk hS' => ?_)
    exact hk none u hpost p e s m args below meth c RR H1 locs1 cells slots Q' ls C0 hl ⟨hw.1, by rw [← ht]; exact hB.1, hB.2, hS'⟩ hq
  | some ty =>
    refine va_calli (va_runS (As := As.map (zv ad)) (rest := st.map (zv ad)) ⟨hx, hb, hml, hown, hts⟩ (met_i hret hpl hcat hlen hcal) (va_cwS (rm := zrm d) As.length hts (zgood_S hlk) rfl rfl rfl hd3 hrm) ⟨zPc_blind, fun U hU hW => zPc_at hE hw U hU hW⟩ rfl (by simp) hl.1.1 rfl (lv_room hroom) hd ⟨hR3, hR4⟩) hw.2.2.2 (fun q _ h => h) (fun q h => h) (fun r u t H1 locs1 ht hvm hpost hB hz hkk hS' => ?_)
    exact hk (some r) u hpost p e s m args below meth c RR H1 locs1 cells slots Q' ls C0 hl ⟨hw.1, by rw [← ht]; exact hB.1, hB.2, hS'⟩ hq
theorem zrec_cell {b : Nat} {Cn : String} {s : State} {H : Heap} {M : zM} {locs : List Loc} (h : zrec b Cn) (hE : zEnv ad B0 Lx xs s s.heap) (hw : zWd dC dI dA ad B0 s H M locs) : ∃ cellB : Cell, H[ad b]? = some cellB ∧ cellB.vm.isStatics = false ∧ s.vm.findClass Cn = some cellB.cls := by
  rcases h with ⟨ci, T, N, h1, h2⟩ | ⟨rfl, rfl⟩
  · exact va_recv hw.1 hw.2.1 h2 (zw_at h1)
  · exact vk_recv (i := 0) hE.2.2.2.1 (by decide) hw.2.2.2
theorem sn_callV : zr_callV (WX l dC dI dA ad B0 Lx xs) := by
  intro d y pc L st M Q idx k b As R hd hlk hrec hcat hlen hst hcal hk p e s m args below meth c RR H locs cells slots Q' ls C hl hw hq
  have C0 := C
  obtain ⟨hx, hb, hml, hown, hts, ⟨hR1, hR2, hR3, hR4⟩, hE⟩ := C
  have hlk2 := hlk
  obtain ⟨⟨-, hpl, hd3, hmx⟩, -⟩ := hlk2
  have hstk : (As.reverse ++ .ref b :: st).map (zv ad) = (As.map (zv ad)).reverse ++ .ref (ad b) :: st.map (zv ad) := by rw [List.map_append, List.map_reverse]; rfl
  rw [hstk]
  have hcat' : ∀ v ∈ (Value.ref b :: As), v.category = 1 := by
    intro v hv
    rcases List.mem_cons.mp hv with rfl | hv
    · rfl
    · exact hcat v hv
  have hrm : (zrm d).frames + 1 ≤ RR.frames ∧ 8 + (k.2.2.1 + 11) + (zrm d).locals ≤ RR.locals := ⟨hR1, by show 8 + (k.2.2.1 + 11) + 64 * d ≤ RR.locals; omega⟩
  have hroom : ((st.map (zv ad)).map fun v => v.category).sum ≤ 8 := by rw [zcat_map]; exact hst
  cases hret : k.2.2.2 with
  | none =>
    refine va_callv (va_runV (As := As.map (zv ad)) (rest := st.map (zv ad)) ⟨hx, hb, hml, hown, hts⟩ (met_v hret hpl hcat' hlen hcal) (cwV (rm := zrm d) As.length hts (zgood_V hlk) rfl rfl rfl ⟨rfl, hd3⟩ hrm) ⟨zPc_blind, zrec_cell hrec hE hw, fun U hU hW => zPc_at hE hw U hU hW⟩ rfl (by simp) hl.1.1 rfl (lv_room hroom) hd ⟨hR3, hR4⟩) hw.2.2.2 (fun q _ h => h) (fun q h => h) (fun u t H1 locs1 ht hvm hpost hB hz hkk hS' => ?_)
    exact hk none u hpost p e s m args below meth c RR H1 locs1 cells slots Q' ls C0 hl ⟨hw.1, by rw [← ht]; exact hB.1, hB.2, hS'⟩ hq
  | some ty =>
    refine va_calli (va_runV (As := As.map (zv ad)) (rest := st.map (zv ad)) ⟨hx, hb, hml, hown, hts⟩ (met_i hret hpl hcat' hlen hcal) (cwV (rm := zrm d) As.length hts (zgood_V hlk) rfl rfl rfl ⟨rfl, hd3⟩ hrm) ⟨zPc_blind, zrec_cell hrec hE hw, fun U hU hW => zPc_at hE hw U hU hW⟩ rfl (by simp) hl.1.1 rfl (lv_room hroom) hd ⟨hR3, hR4⟩) hw.2.2.2 (fun q _ h => h) (fun q h => h) (fun r u t H1 locs1 ht hvm hpost hB hz hkk hS' => ?_)
    exact hk (some r) u hpost p e s m args below meth c RR H1 locs1 cells slots Q' ls C0 hl ⟨hw.1, by rw [← ht]; exact hB.1, hB.2, hS'⟩ hq
theorem zsound {d : Nat} {y : zY} {pc : Nat} {L : Nat → Value} {st : List Value} {M : zM} {Q : zQ} (h : Ev Lx xs d y pc L st M Q) : WX l dC dI dA ad B0 Lx xs d y pc L st M Q :=
  h _ ⟨sn_done, sn_const, sn_il, sn_al, sn_is, sn_as, sn_inc, sn_bin, sn_un, sn_stk, sn_icmp, sn_if, sn_goto, sn_tin, sn_tout, sn_geti, sn_getr, sn_puti, sn_putr, sn_ald, sn_ast, sn_alen, sn_lald, sn_last, sn_i2l, sn_lcmp, sn_sld, sn_slen, sn_copy, sn_max, sn_min, sn_ldcS, sn_sval, sn_scod, sn_scmp, sn_sbld, sn_sblen, sn_callS, sn_callV⟩
end
