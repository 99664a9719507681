/-! ===== the small machine is sound: what it computes the real machine computes ===== -/
set_option maxHeartbeats 4000000 in
theorem mact_cnt {i : MI} {pc : Nat} {ls : ML} {st : List Value} {a : MA} {h : MH} {pc2 : Nat} {ls2 : ML} {st2 : List Value} {a2 : MA} {h2 : MH} (e : mact i pc ls st a h = some (.inl (pc2, ls2, st2, a2, h2))) : a.1 ≤ a2.1 ∧ a.2.1 ≤ a2.2.1 ∧ a.2.2 ≤ a2.2.2 := by
  obtain ⟨ins, len, x, y, c⟩ := i
  cases ins
  all_goals (delta mact nx jx mcall at e; dsimp only at e)
  all_goals (repeat' split at e)
  all_goals first | (cases e; done) | (cases e; exact ⟨Nat.le_refl _, Nat.le_refl _, Nat.le_refl _⟩) | (cases e; dsimp only; omega)
/-- a return: what is handed back, and by which instruction -/
def RetI (f : MInfo) (pc : Nat) (v : Option Value) : Prop := match v with
  | none => decode f.2.2.1 pc = .ok (.return_, 1) ∧ f.2.2.2.1 = none
  | some (.int x) => decode f.2.2.1 pc = .ok (.ireturn, 1) ∧ mrt (rsort f.2.2.2.1) x = true
  | some (.long _) => decode f.2.2.1 pc = .ok (.lreturn, 1) ∧ f.2.2.2.1 = some .long
  | some (.ref _) => decode f.2.2.1 pc = .ok (.areturn, 1) ∧ ∃ C, f.2.2.2.1 = some (.object C)
  | some .null => decode f.2.2.1 pc = .ok (.areturn, 1) ∧ ∃ C, f.2.2.2.1 = some (.object C)
  | _ => False
theorem OKb_spec {f : MInfo} {pc : Nat} {ins : Instr} {len x y : Nat} {c : Int} (h : OKb f (pc, ins, len, x, y, c) = true) : decode f.2.2.1 pc = .ok (ins, len) ∧ (isSw ins = true ∨ len = mlength ins) ∧ LKb f (ins, len, x, y, c) = true := by
  unfold OKb at h
  simp only [Bool.and_eq_true, Bool.or_eq_true, decide_eq_true_eq, beq_iff_eq] at h
  exact ⟨h.1.1, h.1.2, h.2⟩
set_option maxHeartbeats 4000000 in
theorem ret_inv {f : MInfo} {i : MI} {pc : Nat} {ls : ML} {st : List Value} {a : MA} {h : MH} {r : MR} (hok : OKb f (pc, i) = true) (e : mact i pc ls st a h = some (.inr (.inl r))) : r.2.1 = a ∧ r.2.2 = h ∧ st = r.1.toList ∧ RetI f pc r.1 := by
  obtain ⟨ins, len, x, y, c⟩ := i
  obtain ⟨hd, hl, hk⟩ := OKb_spec hok
  cases ins
  case ireturn =>
    have hl : len = 1 := by simpa [isSw, mlength] using hl
    subst hl
    have hk : x = rsort f.2.2.2.1 := by simpa [LKb] using hk
    subst hk
    delta mact at e; dsimp only at e
    split at e
    · split at e
      · rename_i hr; cases e; exact ⟨rfl, rfl, rfl, hd, hr⟩
      · cases e
    · cases e
  case lreturn =>
    have hl : len = 1 := by simpa [isSw, mlength] using hl
    subst hl
    have hk : f.2.2.2.1 = some .long := by simpa [LKb] using hk
    delta mact at e; dsimp only at e
    split at e
    · cases e; exact ⟨rfl, rfl, rfl, hd, hk⟩
    · cases e
  case areturn =>
    have hl : len = 1 := by simpa [isSw, mlength] using hl
    subst hl
    have hk : ∃ C, f.2.2.2.1 = some (.object C) := by
      simp only [LKb] at hk
      split at hk
      · rename_i C hC; exact ⟨C, hC⟩
      · cases hk
    delta mact at e; dsimp only at e
    split at e
    · cases e; exact ⟨rfl, rfl, rfl, hd, hk⟩
    · cases e; exact ⟨rfl, rfl, rfl, hd, hk⟩
    · cases e
  case return_ =>
    have hl : len = 1 := by simpa [isSw, mlength] using hl
    subst hl
    have hk : f.2.2.2.1 = none := by simpa [LKb] using hk
    delta mact at e; dsimp only at e
    split at e
    · cases e; exact ⟨rfl, rfl, rfl, hd, hk⟩
    · cases e
  all_goals (delta mact nx jx mcall at e; dsimp only at e)
  all_goals (repeat' split at e)
  all_goals (cases e)
