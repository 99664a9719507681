/-! ===== the instructions that read and write cells ===== -/
theorem vwCl_at : ∀ x, x < 7 → vwCl[x]? = some (mown x, (clsT x).1, (clsT x).2.2) := by
  intro x hx
  match x, hx with
  | 0, _ => rfl
  | 1, _ => rfl
  | 2, _ => rfl
  | 3, _ => rfl
  | 4, _ => rfl
  | 5, _ => rfl
  | 6, _ => rfl
set_option maxRecDepth 100000 in
theorem uws_in : ∀ x, x < 7 → ∀ w ∈ u_ws (mown x) (clsT x).1 (clsT x).2.2, w ∈ wtbl := by
  intro x hx
  match x, hx with
  | 0, _ => exact (by decide +kernel : ∀ w ∈ wsX00, w ∈ wtbl)
  | 1, _ => exact (by decide +kernel : ∀ w ∈ wsX10, w ∈ wtbl)
  | 2, _ => exact (by decide +kernel : ∀ w ∈ wsX20, w ∈ wtbl)
  | 3, _ => exact (by decide +kernel : ∀ w ∈ wsX30, w ∈ wtbl)
  | 4, _ => exact (by decide +kernel : ∀ w ∈ wsX40, w ∈ wtbl)
  | 5, _ => exact (by decide +kernel : ∀ w ∈ wsX50, w ∈ wtbl)
  | 6, _ => exact (by decide +kernel : ∀ w ∈ wsX60, w ∈ wtbl)
theorem ty_ok : ∀ x, x < 7 → ∀ k, k < (clsT x).2.2 → parseFieldDescriptor ((clsT x).1 k).2.2.1 = some ((clsT x).2.1 k) := by
  intro x hx
  match x, hx with
  | 0, _ => exact tyX0_ok
  | 1, _ => exact tyX1_ok
  | 2, _ => exact tyX2_ok
  | 3, _ => exact tyX3_ok
  | 4, _ => exact tyX4_ok
  | 5, _ => exact tyX5_ok
  | 6, _ => exact tyX6_ok
theorem nm_ok : ∀ x, x < 7 → ∀ a, a < (clsT x).2.2 → ∀ b, b < (clsT x).2.2 → a ≠ b → ((clsT x).1 a).2.1 ≠ ((clsT x).1 b).2.1 := by
  intro x hx
  match x, hx with
  | 0, _ => exact nmX0
  | 1, _ => exact nmX1
  | 2, _ => exact nmX2
  | 3, _ => exact nmX3
  | 4, _ => exact nmX4
  | 5, _ => exact nmX5
  | 6, _ => exact nmX6
theorem mgf_some {h : MH} {q c k : Nat} {v : Value} (e : mgf h q c k = some v) : ∃ fs, h q = .inr (.inr (c, fs)) ∧ fs[k]? = some v := by
  unfold mgf at e
  split at e
  · rename_i c' fs hq
    split at e
    · rename_i hc; subst hc; exact ⟨fs, hq, e⟩
    · cases e
  · cases e
theorem mpf_some {h h2 : MH} {q c k : Nat} {v : Value} (e : mpf h q c k v = some h2) : ∃ fs, h q = .inr (.inr (c, fs)) ∧ c < 7 ∧ k < fs.length ∧ h2 = mup h q (.inr (.inr (c, fs.set k v))) := by
  unfold mpf at e
  split at e
  · rename_i c' fs hq
    split at e
    · rename_i hc; obtain ⟨hc, h1, h2⟩ := hc; subst hc; cases e; exact ⟨fs, hq, h1, h2, rfl⟩
    · cases e
  · cases e
theorem outc_obj {xs : List Int32} {q c : Nat} {fs : List Value} : outc xs q = .inr (.inr (c, fs)) → (c = 8 ∧ q = 1200 ∧ fs = xs.map Value.int) ∨ (c = 9 ∧ q = 1300 ∧ fs = [.int (-1), .int 0, .int 0, .int 2, .int 3, .int 0, .int 5]) ∨ (c = 7 ∧ ∃ i, i < 13 ∧ q = 1000 + i ∧ fs = [.int 0, .ref (1100 + i)]) ∨ (c = 10 ∧ ∃ i, i < 13 ∧ q = 1100 + i ∧ fs = (sbyt.getD i []).map Value.int) := by
  refine outc_cases (P := fun z => z = .inr (.inr (c, fs)) → _) ?_ ?_ ?_ ?_ ?_
  · intro hq e; cases e; exact Or.inl ⟨rfl, hq, rfl⟩
  · intro hq e; cases e; exact Or.inr (Or.inl ⟨rfl, hq, rfl⟩)
  · intro i hi hq e; cases e; exact Or.inr (Or.inr (Or.inl ⟨rfl, i, hi, hq, rfl⟩))
  · intro i hi hq e; cases e; exact Or.inr (Or.inr (Or.inr ⟨rfl, i, hi, hq, rfl⟩))
  · intro e; cases e
theorem outc_nl {xs : List Int32} {q n : Nat} {f : Nat → Int32} : ¬ outc xs q = .inl (n, f) := by
  refine outc_cases (P := fun z => ¬ z = .inl (n, f)) ?_ ?_ ?_ ?_ ?_
  · intro _ e; cases e
  · intro _ e; cases e
  · intro _ _ _ e; cases e
  · intro _ _ _ e; cases e
  · intro e; cases e
theorem outc_nr {xs : List Int32} {q e n : Nat} {f : Nat → Option Nat} : outc xs q = .inr (.inl (e, n, f)) → e = 99 := by
  refine outc_cases (P := fun z => z = .inr (.inl (e, n, f)) → e = 99) ?_ ?_ ?_ ?_ ?_
  · intro _ e; cases e
  · intro _ e; cases e
  · intro _ _ _ e; cases e
  · intro _ _ _ e; cases e
  · intro e; cases e; rfl
/-- an object of a class of the world lies in the world -/
theorem obj_in {xs : List Int32} {n : Nat} {h : MH} (hI : hin xs n h) {q c : Nat} {fs : List Value} (hq : h q = .inr (.inr (c, fs))) (hc : c < 7) : q < n ∧ ∀ v ∈ fs, clo n v := by
  rcases hin_lt hI (q := q) with ⟨h1, h2⟩ | h1 | ⟨_, h1⟩
  · rw [hq] at h2; exact ⟨h1, h2.2⟩
  · rw [hq] at h1; cases h1
  · rw [hq] at h1
    rcases outc_obj h1.symm with ⟨e, _⟩ | ⟨e, _⟩ | ⟨e, _⟩ | ⟨e, _⟩ <;> omega
theorem row_in {xs : List Int32} {n : Nat} {h : MH} (hI : hin xs n h) {q k : Nat} {f : Nat → Int32} (hq : h q = .inl (k, f)) : q < n := by
  rcases hin_lt hI (q := q) with ⟨h1, h2⟩ | h1 | ⟨_, h1⟩
  · exact h1
  · rw [hq] at h1; cases h1
  · rw [hq] at h1; exact absurd h1.symm outc_nl
theorem refs_in {xs : List Int32} {n : Nat} {h : MH} (hI : hin xs n h) {q k e : Nat} {f : Nat → Option Nat} (hq : h q = .inr (.inl (e, k, f))) (he : e ≠ 99) : q < n ∧ (e = 0 ∨ e = 3) ∧ ∀ i q, i < k → f i = some q → q < n ∨ 1000 ≤ q := by
  rcases hin_lt hI (q := q) with ⟨h1, h2⟩ | h1 | ⟨_, h1⟩
  · rw [hq] at h2; exact ⟨h1, h2.1, h2.2⟩
  · rw [hq] at h1; cases h1; exact absurd rfl he
  · rw [hq] at h1; exact absurd (outc_nr h1.symm) he
theorem lp_congr {g g' : Value → Value} : ∀ {ls : ML} {i : Nat}, (∀ v, some v ∈ ls → g v = g' v) → lp g ls i = lp g' ls i
  | [], _, _ => rfl
  | none :: t, i, h => by unfold lp; exact lp_congr fun v hv => h v (List.mem_cons_of_mem _ hv)
  | some u :: t, i, h => by unfold lp; rw [h u List.mem_cons_self, lp_congr fun v hv => h v (List.mem_cons_of_mem _ hv)]
theorem lrep_eq {sv : Value} {ad ad' : Nat → Nat} {n : Nat} {ls' : Array Slot} {ls : ML} (hl : lin n ls) (ha : ∀ k, k < n ∨ 1000 ≤ k → ad' k = ad k) (h : lrep (tv sv ad) ls' ls) : lrep (tv sv ad') ls' ls := by
  unfold lrep at h ⊢
  rw [lp_congr (g := tv sv ad') (g' := tv sv ad) fun v hv => tv_eq (hl v hv) ha]
  exact h
theorem stk_eq {sv : Value} {ad ad' : Nat → Nat} {n : Nat} {st : List Value} (hl : sin n st) (ha : ∀ k, k < n ∨ 1000 ≤ k → ad' k = ad k) : st.map (tv sv ad') = st.map (tv sv ad) := List.map_congr_left fun v hv => tv_eq (hl v hv) ha
theorem mdf_tv {sv : Value} {ad : Nat → Nat} : ∀ x, (mdf x).map (tv sv ad) = mdf x := by
  intro x
  unfold mdf
  split <;> rfl
theorem mdf_clo {n : Nat} : ∀ x, ∀ v ∈ mdf x, clo n v := by
  intro x v hv
  unfold mdf at hv
  split at hv <;> simp at hv <;> (first | (rcases hv with rfl | rfl | rfl | rfl | rfl | rfl <;> trivial) | (rcases hv with rfl | rfl | rfl <;> trivial) | (rcases hv with rfl | rfl <;> trivial) | (subst hv; trivial) | skip)
theorem arr_same {U : State} {cA cB : ClassId} {ty : FieldType} (h1 : va_RA U cA ty) (h2 : va_RA U cB ty) : cA = cB := by
  cases ty with
  | object C =>
    obtain ⟨_, _, _, _, _, e1⟩ := h1
    obtain ⟨_, _, _, _, _, e2⟩ := h2
    exact Option.some.inj (e1.symm.trans e2)
  | _ => exact Option.some.inj (h1.symm.trans h2)
theorem slen_ok : ∀ i, i < 13 → slen.getD i 0 = (sbyt.getD i []).length := by decide
