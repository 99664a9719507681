/-! ===== calls: what the call did, the callee's words, and how the caller goes on ===== -/
def wsM (f : MInfo) (nL : Nat) : List Cond := .code f.2.1 f.2.2.1 nL f.2.2.2.1 :: wtbl
set_option maxRecDepth 100000 in
theorem kind_all : (List.range 237).all (fun M => match mnfo M with | some f => (f.2.2.2.2.2 != 2 || f.2.1.name == "<init>") && decide (f.2.2.2.2.2 < 3) | none => false) = true := by decide +kernel
theorem kind_ok {M : Nat} {f : MInfo} (hM : M < 237) (hf : mnfo M = some f) : (f.2.2.2.2.2 = 2 → f.2.1.name = "<init>") ∧ f.2.2.2.2.2 < 3 := by
  have h := List.all_eq_true.mp kind_all M (List.mem_range.mpr hM)
  rw [hf] at h
  simp only [Bool.and_eq_true, Bool.or_eq_true, bne_iff_ne, ne_eq, beq_iff_eq, decide_eq_true_eq] at h
  exact ⟨fun e => h.1.resolve_left (fun z => z e), h.2⟩
theorem wt_good {w : Cond} (h : w ∈ wtbl) : w ∈ wtbl ∧ ((w.onTables && w.keeps) = true ∨ ∃ ty, w = .arrayClass ty) := ⟨h, good_of_word (List.mem_filter.mp h).2⟩
theorem wsM_good {M : Nat} {f : MInfo} (hM : M < 236) (hf : mnfo M = some f) : GoodIn wtbl (wsM f (mml M)) := by
  intro w hw
  rcases List.mem_cons.mp hw with e | e
  · refine wt_good (wof_in M hM w ?_)
    unfold wof
    rw [hf, e]
    exact List.mem_cons_self
  · exact wt_good e
theorem wof_code {M : Nat} {f : MInfo} (hM : M < 236) (hf : mnfo M = some f) : Cond.code f.2.1 f.2.2.1 (mml M) f.2.2.2.1 ∈ wtbl := wof_in M hM _ (by unfold wof; rw [hf]; exact List.mem_cons_self)
theorem wof_init {M : Nat} {f : MInfo} (hM : M < 236) (hf : mnfo M = some f) : Cond.initialized f.2.1.cls ∈ wtbl := wof_in M hM _ (by unfold wof; rw [hf]; exact List.mem_cons_of_mem _ List.mem_cons_self)
theorem wof_static {M : Nat} {f : MInfo} (hM : M < 236) (hf : mnfo M = some f) (hk : f.2.2.2.2.2 = 0) : Cond.static f.2.1 ∈ wtbl := wof_in M hM _ (by unfold wof; rw [hf]; dsimp only; rw [if_pos hk]; exact List.mem_cons_of_mem _ (List.mem_cons_of_mem _ List.mem_cons_self))
theorem wof_inst {M : Nat} {f : MInfo} (hM : M < 236) (hf : mnfo M = some f) (hk : ¬ f.2.2.2.2.2 = 0) : Cond.instanceMethod f.2.1 ∈ wtbl := wof_in M hM _ (by
  unfold wof
  rw [hf]
  dsimp only
  rw [if_neg hk]
  by_cases h1 : f.2.2.2.2.2 = 1
  · rw [if_pos h1]; exact List.mem_cons_of_mem _ (List.mem_cons_of_mem _ List.mem_cons_self)
  · rw [if_neg h1]; exact List.mem_cons_of_mem _ (List.mem_cons_of_mem _ List.mem_cons_self))
theorem wof_sel {M : Nat} {f : MInfo} (hM : M < 236) (hf : mnfo M = some f) (hk : f.2.2.2.2.2 = 1) : Cond.selects f.2.1.cls f.2.1 f.2.1 ∈ wtbl := wof_in M hM _ (by
  unfold wof
  rw [hf]
  dsimp only
  rw [if_neg (by omega), if_pos hk]
  exact List.mem_cons_of_mem _ (List.mem_cons_of_mem _ (List.mem_cons_of_mem _ List.mem_cons_self)))
/-- what a call's link says -/
theorem lkcall_spec {k rank idx M' n kind : Nat} (h : lkcall k rank idx M' n kind = true) : ∃ g : MInfo, mnfo M' = some g ∧ g.2.2.2.2.1 < rank ∧ g.2.2.2.2.2 = kind ∧ (parseMethodDescriptor g.2.1.desc).map (fun d => d.parameters.length) = some n ∧ (g.2.1.cls ≠ "java/lang/invoke/MethodHandle" ∧ g.2.1.cls ≠ "java/lang/invoke/VarHandle") ∧ (wfind (wls k) idx = some (.methodLink (mown k) idx g.2.1) ∨ (kind ≠ 1 ∧ (k, idx, g.2.1) ∈ nests)) := by
  unfold lkcall at h
  split at h
  · rename_i k' y b ret rank' kind' hm
    simp only [Bool.and_eq_true, Bool.or_eq_true, decide_eq_true_eq, beq_iff_eq] at h
    obtain ⟨⟨⟨⟨⟨h1, h2⟩, h3⟩, h4⟩, h5⟩, h6⟩ := h
    exact ⟨_, hm, h1, h2, h3, ⟨h4, h5⟩, h6⟩
  · cases h
theorem mcall_inv {k n : Nat} {c : Int} {pc : Nat} {ls : ML} {st : List Value} {a : MA} {h : MH} {M0 M' : Nat} {as : List Value} {pc' : Nat} {ls1 : ML} {st1 : List Value} (e : mcall k n c pc ls st a h M0 = some (.inr (.inr (M', as, pc', ls1, st1)))) : M' = M0 ∧ pc' = pc + 3 ∧ ls1 = ls ∧ mcat st1 ≤ 8 ∧ ((k = 0 ∧ as.length = n ∧ st = as.reverse ++ st1) ∨ (¬ k = 0 ∧ ∃ b as', as = .ref b :: as' ∧ as'.length = n ∧ st = as'.reverse ++ .ref b :: st1 ∧ (k = 1 → mis h b c = true))) := by
  unfold mcall at e
  split at e
  · cases e
  · rename_i hn
    have hlen : (st.take n).reverse.length = n := by rw [List.length_reverse, List.length_take]; omega
    split at e
    · split at e
      · rename_i hc
        cases e
        exact ⟨rfl, rfl, rfl, hc, Or.inl ⟨rfl, hlen, by rw [List.reverse_reverse, List.take_append_drop]⟩⟩
      · cases e
    · split at e
      · rename_i b r hd
        split at e
        · rename_i hc
          cases e
          exact ⟨rfl, rfl, rfl, hc.2, Or.inr ⟨by decide, b, _, rfl, hlen, by rw [List.reverse_reverse, ← hd, List.take_append_drop], fun _ => hc.1⟩⟩
        · cases e
      · cases e
    · rename_i h0 h1
      split at e
      · rename_i b r hd
        split at e
        · rename_i hc
          cases e
          exact ⟨rfl, rfl, rfl, hc, Or.inr ⟨h0, b, _, rfl, hlen, by rw [List.reverse_reverse, ← hd, List.take_append_drop], fun z => absurd z h1⟩⟩
        · cases e
      · cases e
set_option maxHeartbeats 4000000 in
/-- a call: its instruction, and what it took -/
theorem call_inv {f : MInfo} {i : MI} {pc : Nat} {ls : ML} {st : List Value} {a : MA} {h : MH} {M' : Nat} {as : List Value} {pc' : Nat} {ls1 : ML} {st1 : List Value} (hok : OKb f (pc, i) = true) (e : mact i pc ls st a h = some (.inr (.inr (M', as, pc', ls1, st1)))) : pc' = pc + 3 ∧ ls1 = ls ∧ mcat st1 ≤ 8 ∧ ∃ k n, (decode f.2.2.1 pc = .ok (.invokestatic k, 3) ∧ lkcall f.1 f.2.2.2.2.1 k M' n 0 = true ∧ as.length = n ∧ st = as.reverse ++ st1) ∨ (∃ b as', as = .ref b :: as' ∧ as'.length = n ∧ st = as'.reverse ++ .ref b :: st1 ∧ ((decode f.2.2.1 pc = .ok (.invokevirtual k, 3) ∧ lkcall f.1 f.2.2.2.2.1 k M' n 1 = true ∧ ∃ g : MInfo, mnfo M' = some g ∧ mis h b g.1 = true ∧ mown g.1 = g.2.1.cls ∧ g.1 < 8) ∨ (decode f.2.2.1 pc = .ok (.invokespecial k, 3) ∧ lkcall f.1 f.2.2.2.2.1 k M' n 2 = true))) := by
  obtain ⟨ins, len, x, y, c⟩ := i
  obtain ⟨hd, hl, hk⟩ := OKb_spec hok
  cases ins
  case invokestatic k =>
    have hl : len = 3 := by simpa [isSw, mlength] using hl
    subst hl
    by_cases hx : x = 9998
    · exfalso
      delta mact nx at e; dsimp only at e
      rw [if_pos hx] at e
      repeat' split at e
      all_goals (cases e)
    · delta mact at e; dsimp only at e
      rw [if_neg hx] at e
      obtain ⟨rfl, h1, h2, h3, h4⟩ := mcall_inv e
      refine ⟨h1, h2, h3, k, y, Or.inl ⟨hd, ?_, ?_⟩⟩
      · simp only [LKb, if_neg hx] at hk; exact hk
      · rcases h4 with ⟨_, h4⟩ | ⟨h0, _⟩
        · exact h4
        · exact absurd rfl h0
  case invokevirtual k =>
    have hl : len = 3 := by simpa [isSw, mlength] using hl
    subst hl
    delta mact at e; dsimp only at e
    obtain ⟨rfl, h1, h2, h3, h4⟩ := mcall_inv e
    simp only [LKb, Bool.and_eq_true] at hk
    obtain ⟨hk1, hk2⟩ := hk
    refine ⟨h1, h2, h3, k, y, Or.inr ?_⟩
    rcases h4 with ⟨h0, _⟩ | ⟨_, b, as', h5, h6, h7, h8⟩
    · cases h0
    · refine ⟨b, as', h5, h6, h7, Or.inl ⟨hd, hk1, ?_⟩⟩
      split at hk2
      · rename_i g hg
        simp only [Bool.and_eq_true, beq_iff_eq, decide_eq_true_eq] at hk2
        exact ⟨g, hg, by rw [hk2.1.1]; exact h8 rfl, hk2.1.2, hk2.2⟩
      · cases hk2
  case invokespecial k =>
    have hl : len = 3 := by simpa [isSw, mlength] using hl
    subst hl
    by_cases hx : x = 9999
    · exfalso
      delta mact nx at e; dsimp only at e
      rw [if_pos hx] at e
      repeat' split at e
      all_goals (cases e)
    · delta mact at e; dsimp only at e
      rw [if_neg hx] at e
      obtain ⟨rfl, h1, h2, h3, h4⟩ := mcall_inv e
      refine ⟨h1, h2, h3, k, y, Or.inr ?_⟩
      rcases h4 with ⟨h0, _⟩ | ⟨_, b, as', h5, h6, h7, h8⟩
      · cases h0
      · refine ⟨b, as', h5, h6, h7, Or.inr ⟨hd, ?_⟩⟩
        simp only [LKb, if_neg hx] at hk; exact hk
  all_goals (exfalso; delta mact nx jx at e; dsimp only at e)
  all_goals (repeat' split at e)
  all_goals (cases e)
