/- places: the two readings stand at 2 and at 13 -/
def zR (r : Nat) : Prop := r = 2 ∨ r = 13
theorem zq {M : zM} {n b o k q : Nat} (hP : M.2.1 = zP0 n b) (h : zP0 n b o k = q) : M.2.1 o k = q := by rw [hP]; exact h
section
variable {r n b : Nat}
theorem sh_R (h : zR r) : zsh[r]? = some (.inr 1) := by rcases h with rfl | rfl <;> rfl
theorem sh_S (h : zR r) : zsh[r + 1]? = some (.inr 2) := by rcases h with rfl | rfl <;> rfl
theorem sh_T (h : zR r) : zsh[r + 2]? = some (.inr 3) := by rcases h with rfl | rfl <;> rfl
theorem sh_chars (h : zR r) : zsh[r + 3]? = some (.inl (1, 160)) := by rcases h with rfl | rfl <;> rfl
theorem sh_found (h : zR r) : zsh[r + 4]? = some (.inl (0, 160)) := by rcases h with rfl | rfl <;> rfl
theorem sh_marks (h : zR r) : zsh[r + 5]? = some (.inl (1, 160)) := by rcases h with rfl | rfl <;> rfl
theorem sh_firsts (h : zR r) : zsh[r + 6]? = some (.inl (0, 160)) := by rcases h with rfl | rfl <;> rfl
theorem sh_lasts (h : zR r) : zsh[r + 7]? = some (.inl (0, 160)) := by rcases h with rfl | rfl <;> rfl
theorem sh_levels (h : zR r) : zsh[r + 8]? = some (.inl (0, 160)) := by rcases h with rfl | rfl <;> rfl
theorem sh_values (h : zR r) : zsh[r + 9]? = some (.inl (0, 160)) := by rcases h with rfl | rfl <;> rfl
theorem sh_numbers (h : zR r) : zsh[r + 10]? = some (.inl (0, 160)) := by rcases h with rfl | rfl <;> rfl
theorem pt_source (h : zR r) : zP0 n b r 0 = r + 1 := by rcases h with rfl | rfl <;> rfl
theorem pt_tree (h : zR r) : zP0 n b r 1 = r + 2 := by rcases h with rfl | rfl <;> rfl
theorem pt_chars (h : zR r) : zP0 n b (r + 1) 0 = r + 3 := by rcases h with rfl | rfl <;> rfl
theorem pt_found (h : zR r) : zP0 n b (r + 1) 2 = r + 4 := by rcases h with rfl | rfl <;> rfl
theorem pt_marks (h : zR r) : zP0 n b (r + 1) 3 = r + 5 := by rcases h with rfl | rfl <;> rfl
theorem pt_firsts (h : zR r) : zP0 n b (r + 2) 0 = r + 6 := by rcases h with rfl | rfl <;> rfl
theorem pt_lasts (h : zR r) : zP0 n b (r + 2) 1 = r + 7 := by rcases h with rfl | rfl <;> rfl
theorem pt_levels (h : zR r) : zP0 n b (r + 2) 2 = r + 8 := by rcases h with rfl | rfl <;> rfl
theorem pt_values (h : zR r) : zP0 n b (r + 2) 3 = r + 9 := by rcases h with rfl | rfl <;> rfl
theorem pt_numbers (h : zR r) : zP0 n b (r + 2) 4 = r + 10 := by rcases h with rfl | rfl <;> rfl
theorem rec_R (h : zR r) : zrec r "KeptItems$Reading" := Or.inl ⟨1, _, _, sh_R h, rfl⟩
theorem rec_S (h : zR r) : zrec (r + 1) "KeptItems$Source" := Or.inl ⟨2, _, _, sh_S h, rfl⟩
theorem rec_T (h : zR r) : zrec (r + 2) "KeptItems$Tree" := Or.inl ⟨3, _, _, sh_T h, rfl⟩
end
theorem rec_K : zrec 0 "KeptItems" := Or.inl ⟨0, _, _, rfl, rfl⟩
theorem rec_M : zrec 25 "KeptItemsModel" := Or.inl ⟨4, _, _, rfl, rfl⟩
theorem rec_J : zrec 1001 "java/lang/String" := Or.inr ⟨rfl, rfl⟩
/- memory -/
theorem zI_s (M : zM) (o k : Nat) (x : Int32) : (zI M o k x).1 o k = x := by simp [zI, upd]
theorem zI_k {M : zM} {o k i : Nat} {x : Int32} (h : i ≠ k) : (zI M o k x).1 o i = M.1 o i := by simp [zI, upd, h]
theorem zI_o {M : zM} {o k a i : Nat} {x : Int32} (h : a ≠ o) : (zI M o k x).1 a i = M.1 a i := by simp [zI, h]
theorem zI_at (M : zM) (o k : Nat) (x : Int32) (a i : Nat) : (zI M o k x).1 a i = if a = o ∧ i = k then x else M.1 a i := by
  by_cases h : a = o
  · subst h
    by_cases h2 : i = k
    · subst h2; rw [zI_s]; simp
    · rw [zI_k h2]; simp [h2]
  · rw [zI_o h]; simp [h]
theorem zb0 {b : Bool} : (nI b.toNat = nI 0) ↔ b = false := by cases b <;> decide
theorem zb1 (b : Bool) : narrow .boolean (.int (nI b.toNat)) = .int (nI b.toNat) := by cases b <;> rfl
theorem zi2b : ∀ c, c < 128 → (nI c).toInt8.toInt32 = nI c := by decide
theorem zchr {c : Nat} (h : c < 65536) : narrow .char (.int (nI c)) = .int (nI c) := (pk_charN h).1
