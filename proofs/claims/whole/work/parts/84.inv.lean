/-! ===== what stood on the stack, from what the small machine did ===== -/
section INV
variable {st : List Value} {z : MAct}
theorem m_i {F : Int32 → List Value → Option MAct} (h : (match st with | .int x :: r => F x r | _ => none) = some z) : ∃ x r, st = .int x :: r ∧ F x r = some z := by
  split at h
  · exact ⟨_, _, rfl, h⟩
  · cases h
theorem m_l {F : Int64 → List Value → Option MAct} (h : (match st with | .long x :: r => F x r | _ => none) = some z) : ∃ x r, st = .long x :: r ∧ F x r = some z := by
  split at h
  · exact ⟨_, _, rfl, h⟩
  · cases h
theorem m_r {F : Nat → List Value → Option MAct} (h : (match st with | .ref x :: r => F x r | _ => none) = some z) : ∃ x r, st = .ref x :: r ∧ F x r = some z := by
  split at h
  · exact ⟨_, _, rfl, h⟩
  · cases h
theorem m_v {F : Value → List Value → Option MAct} (h : (match st with | x :: r => F x r | _ => none) = some z) : ∃ x r, st = x :: r ∧ F x r = some z := by
  split at h
  · exact ⟨_, _, rfl, h⟩
  · cases h
theorem m_vv {F : Value → Value → List Value → Option MAct} (h : (match st with | x :: y :: r => F x y r | _ => none) = some z) : ∃ x y r, st = x :: y :: r ∧ F x y r = some z := by
  split at h
  · exact ⟨_, _, _, rfl, h⟩
  · cases h
theorem m_ii {F : Int32 → Int32 → List Value → Option MAct} (h : (match st with | .int y :: .int x :: r => F y x r | _ => none) = some z) : ∃ y x r, st = .int y :: .int x :: r ∧ F y x r = some z := by
  split at h
  · exact ⟨_, _, _, rfl, h⟩
  · cases h
theorem m_ll {F : Int64 → Int64 → List Value → Option MAct} (h : (match st with | .long y :: .long x :: r => F y x r | _ => none) = some z) : ∃ y x r, st = .long y :: .long x :: r ∧ F y x r = some z := by
  split at h
  · exact ⟨_, _, _, rfl, h⟩
  · cases h
theorem m_ir {F : Int32 → Nat → List Value → Option MAct} (h : (match st with | .int k :: .ref q :: r => F k q r | _ => none) = some z) : ∃ k q r, st = .int k :: .ref q :: r ∧ F k q r = some z := by
  split at h
  · exact ⟨_, _, _, rfl, h⟩
  · cases h
theorem m_iir {F : Int32 → Int32 → Nat → List Value → Option MAct} (h : (match st with | .int x :: .int k :: .ref q :: r => F x k q r | _ => none) = some z) : ∃ x k q r, st = .int x :: .int k :: .ref q :: r ∧ F x k q r = some z := by
  split at h
  · exact ⟨_, _, _, _, rfl, h⟩
  · cases h
theorem m_rir {F : Nat → Int32 → Nat → List Value → Option MAct} (h : (match st with | .ref x :: .int k :: .ref q :: r => F x k q r | _ => none) = some z) : ∃ x k q r, st = .ref x :: .int k :: .ref q :: r ∧ F x k q r = some z := by
  split at h
  · exact ⟨_, _, _, _, rfl, h⟩
  · cases h
theorem m_vr {F : Value → Nat → List Value → Option MAct} (h : (match st with | x :: .ref q :: r => F x q r | _ => none) = some z) : ∃ x q r, st = x :: .ref q :: r ∧ F x q r = some z := by
  split at h
  · exact ⟨_, _, _, rfl, h⟩
  · cases h
theorem m_nr {F : List Value → Option MAct} {G : Nat → List Value → Option MAct} (h : (match st with | .null :: r => F r | .ref q :: r => G q r | _ => none) = some z) : (∃ r, st = .null :: r ∧ F r = some z) ∨ ∃ q r, st = .ref q :: r ∧ G q r = some z := by
  split at h
  · exact Or.inl ⟨_, rfl, h⟩
  · exact Or.inr ⟨_, _, rfl, h⟩
  · cases h
theorem m_rn {F : List Value → Option MAct} {G : Nat → List Value → Option MAct} (h : (match st with | .ref q :: r => G q r | .null :: r => F r | _ => none) = some z) : (∃ r, st = .null :: r ∧ F r = some z) ∨ ∃ q r, st = .ref q :: r ∧ G q r = some z := by
  split at h
  · exact Or.inr ⟨_, _, rfl, h⟩
  · exact Or.inl ⟨_, rfl, h⟩
  · cases h
theorem m_cp {F : Int32 → Int32 → Nat → Int32 → Nat → List Value → Option MAct} (h : (match st with | .int n :: .int dp :: .ref q1 :: .int sp :: .ref q0 :: r => F n dp q1 sp q0 r | _ => none) = some z) : ∃ n dp q1 sp q0 r, st = .int n :: .int dp :: .ref q1 :: .int sp :: .ref q0 :: r ∧ F n dp q1 sp q0 r = some z := by
  split at h
  · exact ⟨_, _, _, _, _, _, rfl, h⟩
  · cases h
variable {o : Option Value}
theorem m_oi {F : Int32 → Option MAct} (h : (match o with | some (.int x) => F x | _ => none) = some z) : ∃ x, o = some (.int x) ∧ F x = some z := by
  split at h
  · exact ⟨_, rfl, h⟩
  · cases h
theorem m_ol {F : Int64 → Option MAct} (h : (match o with | some (.long x) => F x | _ => none) = some z) : ∃ x, o = some (.long x) ∧ F x = some z := by
  split at h
  · exact ⟨_, rfl, h⟩
  · cases h
theorem m_or {F : Nat → Option MAct} {G : Option MAct} (h : (match o with | some (.ref x) => F x | some .null => G | _ => none) = some z) : (∃ x, o = some (.ref x) ∧ F x = some z) ∨ (o = some .null ∧ G = some z) := by
  split at h
  · exact Or.inl ⟨_, rfl, h⟩
  · exact Or.inr ⟨rfl, h⟩
  · cases h
theorem m_oL {o : Option (ML)} {F : ML → Option MAct} (h : (match o with | some x => F x | none => none) = some z) : ∃ x, o = some x ∧ F x = some z := by
  split at h
  · exact ⟨_, rfl, h⟩
  · cases h
theorem m_oH {o : Option (MH)} {F : MH → Option MAct} (h : (match o with | some x => F x | none => none) = some z) : ∃ x, o = some x ∧ F x = some z := by
  split at h
  · exact ⟨_, rfl, h⟩
  · cases h
theorem m_oV {o : Option (Value)} {F : Value → Option MAct} (h : (match o with | some x => F x | none => none) = some z) : ∃ x, o = some x ∧ F x = some z := by
  split at h
  · exact ⟨_, rfl, h⟩
  · cases h
theorem m_oI {o : Option (Int32)} {F : Int32 → Option MAct} (h : (match o with | some x => F x | none => none) = some z) : ∃ x, o = some x ∧ F x = some z := by
  split at h
  · exact ⟨_, rfl, h⟩
  · cases h
theorem m_oO {o : Option (Int)} {F : Int → Option MAct} (h : (match o with | some x => F x | none => none) = some z) : ∃ x, o = some x ∧ F x = some z := by
  split at h
  · exact ⟨_, rfl, h⟩
  · cases h
theorem m_if {P : Prop} [Decidable P] {A : Option MAct} (h : (if P then A else none) = some z) : P ∧ A = some z := by
  split at h
  · rename_i e; exact ⟨e, h⟩
  · cases h
theorem m_ifn {P : Prop} [Decidable P] {A : Option MAct} (h : (if P then none else A) = some z) : ¬ P ∧ A = some z := by
  split at h
  · cases h
  · rename_i e; exact ⟨e, h⟩
theorem m_jx {pc : Nat} {off : Int} {ls : ML} {a : MA} {h : MH} (e : jx pc off ls st a h = some z) : ∃ t : Nat, (pc : Int) + off = (t : Int) ∧ z = .inl (t, ls, st, a, h) := by
  unfold jx mjmp nx at e
  split at e
  · rename_i t ht
    split at ht
    · rename_i h0
      cases ht
      cases e
      exact ⟨_, (Int.toNat_of_nonneg h0).symm, rfl⟩
    · cases ht
  · cases e
end INV
