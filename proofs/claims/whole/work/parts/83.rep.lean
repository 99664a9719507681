/-! ===== how the small machine's state stands in the real one ===== -/
/-- the outside cells: Strings, their bytes, the script, a static row -/
def outc (xs : List Int32) (q : Nat) : MC :=
  if q = 1200 then .inr (.inr (8, xs.map Value.int)) else if q = 1300 then .inr (.inr (9, [.int (-1), .int 0, .int 0, .int 2, .int 3, .int 0, .int 5]))
  else if 1000 ≤ q ∧ q < 1013 then .inr (.inr (7, [.int 0, .ref (q + 100)])) else if 1100 ≤ q ∧ q < 1113 then .inr (.inr (10, (sbyt.getD (q - 1100) []).map Value.int)) else mjunk
/-- a value names no cell that isn't there -/
def clo (n : Nat) : Value → Prop
  | .ref q => q < n ∨ 1000 ≤ q
  | _ => True
theorem clo.mono {n n' : Nat} {v : Value} (h : clo n v) (hn : n ≤ n') : clo n' v := by
  cases v <;> first | trivial | (rcases h with h | h; exact Or.inl (Nat.lt_of_lt_of_le h hn); exact Or.inr h)
/-- a cell of the world is as it should be -/
def wfc (n : Nat) : MC → Prop
  | .inl _ => True
  | .inr (.inl (e, m, f)) => (e = 0 ∨ e = 3) ∧ ∀ i q, i < m → f i = some q → q < n ∨ 1000 ≤ q
  | .inr (.inr (c, fs)) => c < 7 ∧ ∀ v ∈ fs, clo n v
theorem wfc.mono {n n' : Nat} {c : MC} (h : wfc n c) (hn : n ≤ n') : wfc n' c := by
  match c, h with
  | .inl _, _ => trivial
  | .inr (.inl (e, m, f)), h => exact ⟨h.1, fun i q hi e => (h.2 i q hi e).imp (fun z => Nat.lt_of_lt_of_le z hn) id⟩
  | .inr (.inr (c, fs)), h => exact ⟨h.1, fun v hv => (h.2 v hv).mono hn⟩
/-- what holds of every state of the small machine -/
def hin (xs : List Int32) (n : Nat) (h : MH) : Prop := n ≤ 999 ∧ (∀ q, q < n → wfc n (h q)) ∧ (∀ q, n ≤ q → q < 1000 → h q = mjunk) ∧ ∀ q, 1000 ≤ q → h q = outc xs q
def lin (n : Nat) (ls : ML) : Prop := ∀ v, some v ∈ ls → clo n v
def sin (n : Nat) (st : List Value) : Prop := ∀ v ∈ st, clo n v
theorem outc_cases {xs : List Int32} {q : Nat} {P : MC → Prop} (h1 : q = 1200 → P (.inr (.inr (8, xs.map Value.int)))) (h2 : q = 1300 → P (.inr (.inr (9, [.int (-1), .int 0, .int 0, .int 2, .int 3, .int 0, .int 5])))) (h3 : ∀ i, i < 13 → q = 1000 + i → P (.inr (.inr (7, [.int 0, .ref (1100 + i)])))) (h4 : ∀ i, i < 13 → q = 1100 + i → P (.inr (.inr (10, (sbyt.getD i []).map Value.int)))) (h5 : P mjunk) : P (outc xs q) := by
  unfold outc
  by_cases a1 : q = 1200
  · rw [if_pos a1]; exact h1 a1
  rw [if_neg a1]
  by_cases a2 : q = 1300
  · rw [if_pos a2]; exact h2 a2
  rw [if_neg a2]
  by_cases a3 : 1000 ≤ q ∧ q < 1013
  · rw [if_pos a3]
    have := h3 (q - 1000) (by omega) (by omega)
    rw [show 1100 + (q - 1000) = q + 100 by omega] at this
    exact this
  rw [if_neg a3]
  by_cases a4 : 1100 ≤ q ∧ q < 1113
  · rw [if_pos a4]; exact h4 (q - 1100) (by omega) (by omega)
  rw [if_neg a4]; exact h5
section REP
variable (Z : ClassId × ClassId × ClassId) (sv : Value) (ad : Nat → Nat)
def tv : Value → Value
  | .ref q => .ref (ad q)
  | .retAddr _ => sv
  | v => v
def tc : MC → va_E
  | .inl (n, f) => .inl (Z.1, n, .inl f)
  | .inr (.inl (e, n, f)) => .inl (if e = 3 then Z.2.1 else Z.2.2, n, .inr (.inr (.inr (.inr (fun i => if i < n then (f i).map ad else none)))))
  | .inr (.inr (c, fs)) => .inr (c, fs.map (tv sv ad))
def wsl (n : Nat) (h : MH) : va_W := (List.range n).map fun k => (ad k, tc Z sv ad (h k))
def tysZ : List (ClassId × FieldType) := [(Z.1, .int), (Z.2.1, .object "SoakTub$Thing"), (Z.2.2, .object "SoakTub$Sheet")]
end REP
section REPL
variable {Z : ClassId × ClassId × ClassId} {sv : Value} {ad : Nat → Nat} {n : Nat} {h : MH}
theorem wsl_get {k : Nat} (hk : k < n) : (wsl Z sv ad n h)[k]? = some (ad k, tc Z sv ad (h k)) := by
  unfold wsl
  rw [List.getElem?_map, List.getElem?_range hk]
  rfl
theorem wsl_len : (wsl Z sv ad n h).length = n := by unfold wsl; rw [List.length_map, List.length_range]
theorem wsl_set {k : Nat} {c : MC} (hk : k < n) : (wsl Z sv ad n h).set k (ad k, tc Z sv ad c) = wsl Z sv ad n (mup h k c) := by
  apply List.ext_getElem?
  intro i
  by_cases hi : i < n
  · rw [wsl_get hi, List.getElem?_set]
    by_cases e : k = i
    · subst e
      rw [if_pos rfl, if_pos (by rw [wsl_len]; exact hk)]
      unfold mup
      rw [if_pos rfl]
    · rw [if_neg e, wsl_get hi]
      unfold mup
      rw [if_neg (fun z => e z.symm)]
  · rw [List.getElem?_eq_none (by rw [List.length_set, wsl_len]; omega), List.getElem?_eq_none (by rw [wsl_len]; omega)]
theorem tv_eq {ad' : Nat → Nat} {v : Value} (hv : clo n v) (ha : ∀ k, k < n ∨ 1000 ≤ k → ad' k = ad k) : tv sv ad' v = tv sv ad v := by
  cases v with
  | ref q => exact congrArg Value.ref (ha q hv)
  | _ => rfl
theorem tc_eq {ad' : Nat → Nat} {c : MC} (hc : wfc n c) (ha : ∀ k, k < n ∨ 1000 ≤ k → ad' k = ad k) : tc Z sv ad' c = tc Z sv ad c := by
  match c, hc with
  | .inl _, _ => rfl
  | .inr (.inl (e, m, f)), hc =>
    have h1 : (fun i => if i < m then (f i).map ad' else none) = (fun i => if i < m then (f i).map ad else none) := by
      funext i
      by_cases hi : i < m
      · rw [if_pos hi, if_pos hi]
        cases hf : f i with
        | none => rfl
        | some q => exact congrArg some (ha q (hc.2 i q hi hf))
      · rw [if_neg hi, if_neg hi]
    show (Sum.inl (if e = 3 then Z.2.1 else Z.2.2, m, .inr (.inr (.inr (.inr (fun i => if i < m then (f i).map ad' else none))))) : va_E) = _
    rw [h1]
    rfl
  | .inr (.inr (c, fs)), hc =>
    show (Sum.inr (c, fs.map (tv sv ad')) : va_E) = Sum.inr (c, fs.map (tv sv ad))
    rw [List.map_congr_left (fun v hv => tv_eq (sv := sv) (hc.2 v hv) ha)]
theorem wsl_eq {ad' : Nat → Nat} (hc : ∀ q, q < n → wfc n (h q)) (ha : ∀ k, k < n ∨ 1000 ≤ k → ad' k = ad k) : wsl Z sv ad' n h = wsl Z sv ad n h := by
  unfold wsl
  refine List.map_congr_left fun k hk => ?_
  have hk := List.mem_range.mp hk
  rw [ha k (Or.inl hk), tc_eq (hc k hk) ha]
theorem wsl_push {q : Nat} {c : MC} (hn : n ≤ 999) (hc : ∀ q, q < n → wfc n (h q)) (hcc : tc Z sv (mfu ad n q) c = tc Z sv ad c) : wsl Z sv ad n h ++ [(q, tc Z sv ad c)] = wsl Z sv (mfu ad n q) (n + 1) (mup h n c) := by
  have ha : ∀ k, k < n ∨ 1000 ≤ k → mfu ad n q k = ad k := fun k hk => if_neg (by omega)
  have h1 : wsl Z sv (mfu ad n q) (n + 1) (mup h n c) = wsl Z sv (mfu ad n q) n (mup h n c) ++ [(mfu ad n q n, tc Z sv (mfu ad n q) (mup h n c n))] := by
    unfold wsl
    rw [List.range_succ, List.map_append]
    rfl
  have h2 : wsl Z sv (mfu ad n q) n (mup h n c) = wsl Z sv ad n h := by
    rw [← wsl_eq hc ha]
    unfold wsl
    refine List.map_congr_left fun k hk => ?_
    have hk := List.mem_range.mp hk
    show _ = _
    unfold mup
    rw [if_neg (by omega)]
  rw [h1, h2]
  unfold mup
  rw [if_pos rfl, hcc]
  unfold mfu
  rw [if_pos rfl]
theorem tv_cat {v : Value} (hs : sv.category = 1) : (tv sv ad v).category = v.category := by
  cases v <;> first | rfl | exact hs
theorem mcat_tv {st : List Value} (hs : sv.category = 1) : ((st.map (tv sv ad)).map fun v => v.category).sum = mcat st := by
  unfold mcat
  rw [List.map_map]
  congr 1
  exact List.map_congr_left fun v _ => tv_cat hs
/-- the locals -/
def lp (g : Value → Value) : ML → Nat → List (Nat × Value)
  | [], _ => []
  | none :: t, i => lp g t (i + 1)
  | some v :: t, i => (i, g v) :: lp g t (i + 1)
theorem lp_mem {g : Value → Value} : ∀ {ls : ML} {i j : Nat} {w : Value}, (j, w) ∈ lp g ls i ↔ ∃ k v, j = i + k ∧ ls[k]? = some (some v) ∧ w = g v
  | [], i, j, w => ⟨fun h => (nomatch h), fun ⟨k, v, _, h, _⟩ => by simp at h⟩
  | none :: t, i, j, w => by
    unfold lp
    rw [lp_mem]
    constructor
    · rintro ⟨k, v, h1, h2, h3⟩
      exact ⟨k + 1, v, by omega, by simpa using h2, h3⟩
    · rintro ⟨k, v, h1, h2, h3⟩
      cases k with
      | zero => simp at h2
      | succ k => exact ⟨k, v, by omega, by simpa using h2, h3⟩
  | some u :: t, i, j, w => by
    unfold lp
    rw [List.mem_cons, lp_mem]
    constructor
    · rintro (h | ⟨k, v, h1, h2, h3⟩)
      · cases h
        exact ⟨0, u, rfl, rfl, rfl⟩
      · exact ⟨k + 1, v, by omega, by simpa using h2, h3⟩
    · rintro ⟨k, v, h1, h2, h3⟩
      cases k with
      | zero =>
        simp at h2
        subst h2
        exact Or.inl (by rw [h3, h1]; rfl)
      | succ k => exact Or.inr ⟨k, v, by omega, by simpa using h2, h3⟩
/-- real locals that hold the small machine's -/
def lrep (g : Value → Value) (ls' : Array Slot) (ls : ML) : Prop := lv_has ls' ls.length (lp g ls 0)
theorem lrep_get {g : Value → Value} {ls' : Array Slot} {ls : ML} (h : lrep g ls' ls) {k : Nat} {v : Value} (hk : mget ls k = some v) : ls'[k]? = some (.val (g v)) := by
  have hk' : ls[k]? = some (some v) := by
    unfold mget at hk
    split at hk
    · rename_i u e; cases hk; exact e
    · cases hk
  exact h.2.2 (k, g v) (lp_mem.mpr ⟨k, v, by omega, hk', rfl⟩)
theorem lv_mono {ls' : Array Slot} {nL : Nat} {l l' : List (Nat × Value)} (h : lv_has ls' nL l) (hs : ∀ q ∈ l', q ∈ l) : lv_has ls' nL l' := ⟨h.1, h.2.1, fun q hq => h.2.2 q (hs q hq)⟩
theorem mlg_iff {v : Value} : mlg (some v) = false → ¬ v.category = 2 := by
  cases v <;> simp [mlg, Value.category]
/-- a store of one slot, in the small machine's words -/
theorem lp_st1 {g : Value → Value} (hg : ∀ v, (g v).category = v.category) {ls ls2 : ML} {k : Nat} {v : Value} (hm : mst1 ls k v = some ls2) : k < ls.length ∧ ls2.length = ls.length ∧ (∀ q ∈ lp g ls2 0, q ∈ (k, g v) :: (lp g ls 0).filter (fun q => !(q.1 == k) && !(q.1 + 1 == k && q.2.category == 2))) ∧ ls2 = ls.set k (some v) := by
  unfold mst1 at hm
  split at hm
  · rename_i hk
    split at hm
    · cases hm
    · rename_i hp
      cases hm
      refine ⟨hk, List.length_set, fun q hq => ?_, rfl⟩
      obtain ⟨j, w⟩ := q
      obtain ⟨i, u, h1, h2, h3⟩ := lp_mem.mp hq
      rw [Nat.zero_add] at h1
      subst h1
      rw [List.getElem?_set] at h2
      by_cases e : k = j
      · subst e
        rw [if_pos rfl, if_pos hk] at h2
        cases h2
        rw [h3]
        exact List.mem_cons_self
      · rw [if_neg e] at h2
        refine List.mem_cons_of_mem _ (List.mem_filter.mpr ⟨lp_mem.mpr ⟨j, u, by omega, h2, h3⟩, ?_⟩)
        have hne : ¬ j = k := fun z => e z.symm
        by_cases e2 : j + 1 = k
        · have hq2 : ¬ w.category = 2 := by
            rw [h3, hg]
            subst e2
            unfold mprev at hp
            simp only [h2] at hp
            exact mlg_iff (by simpa using hp)
          simp [hne, hq2]
        · simp [hne, e2]
  · cases hm
theorem lp_st2 {g : Value → Value} (hg : ∀ v, (g v).category = v.category) {ls ls2 : ML} {k : Nat} {v : Value} (hm : mst2 ls k v = some ls2) : k + 1 < ls.length ∧ ls2.length = ls.length ∧ (∀ q ∈ lp g ls2 0, q ∈ (k, g v) :: (lp g ls 0).filter (fun q => !(q.1 == k) && (!(q.1 == k + 1) && !(q.1 + 1 == k && q.2.category == 2)))) ∧ ls2 = (ls.set k (some v)).set (k + 1) none := by
  unfold mst2 at hm
  split at hm
  · rename_i hk
    split at hm
    · cases hm
    · rename_i hp
      cases hm
      refine ⟨hk, by rw [List.length_set, List.length_set], fun q hq => ?_, rfl⟩
      obtain ⟨j, w⟩ := q
      obtain ⟨i, u, h1, h2, h3⟩ := lp_mem.mp hq
      rw [Nat.zero_add] at h1
      subst h1
      rw [List.getElem?_set] at h2
      by_cases e0 : k + 1 = j
      · subst e0
        rw [if_pos rfl, if_pos (by rw [List.length_set]; exact hk)] at h2
        cases h2
      rw [if_neg e0, List.getElem?_set] at h2
      by_cases e : k = j
      · subst e
        rw [if_pos rfl, if_pos (by omega)] at h2
        cases h2
        rw [h3]
        exact List.mem_cons_self
      · rw [if_neg e] at h2
        refine List.mem_cons_of_mem _ (List.mem_filter.mpr ⟨lp_mem.mpr ⟨j, u, by omega, h2, h3⟩, ?_⟩)
        have hne : ¬ j = k := fun z => e z.symm
        have hne1 : ¬ j = k + 1 := fun z => e0 z.symm
        by_cases e2 : j + 1 = k
        · have hq2 : ¬ w.category = 2 := by
            rw [h3, hg]
            subst e2
            unfold mprev at hp
            simp only [h2] at hp
            exact mlg_iff (by simpa using hp)
          simp [hne, hne1, hq2]
        · simp [hne, hne1, e2]
  · cases hm
end REPL
