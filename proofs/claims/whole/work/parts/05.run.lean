/-! ===== THE SMALL MACHINE RUNS: by fuel; what it comes to without fuel (Rn), and Rn's equation ===== -/
def mstep (M : Nat) (s : MS) : Option MAct := match mcode M s.1 with
  | some i => mact i s.1 s.2.1 s.2.2.1 s.2.2.2.1 s.2.2.2.2
  | none => none
def mcont (K : MS → Option MR) (pc : Nat) (ls : ML) (st : List Value) (o : Option MR) : Option MR := match o with
  | some (v, a, h) => K (pc, ls, v.toList ++ st, a, h)
  | none => none
/-- a call: the arguments must fit the callee's locals -/
def mcal (C : Nat → MS → Option MR) (M' : Nat) (as : List Value) (a : MA) (h : MH) : Option MR := if (mlay as).length ≤ mml M' then C M' (0, mini (mml M') as, [], a, h) else none
theorem mcal_some {C : Nat → MS → Option MR} {M' : Nat} {as : List Value} {a : MA} {h : MH} {r : MR} (e : mcal C M' as a h = some r) : (mlay as).length ≤ mml M' ∧ C M' (0, mini (mml M') as, [], a, h) = some r := by
  unfold mcal at e
  split at e
  · rename_i z; exact ⟨z, e⟩
  · cases e
theorem mcal_of {C : Nat → MS → Option MR} {M' : Nat} {as : List Value} {a : MA} {h : MH} {r : MR} (hl : (mlay as).length ≤ mml M') (e : C M' (0, mini (mml M') as, [], a, h) = some r) : mcal C M' as a h = some r := by
  unfold mcal
  rw [if_pos hl]
  exact e
def mnext (C : Nat → MS → Option MR) (M : Nat) (a : MA) (h : MH) (o : Option MAct) : Option MR := match o with
  | none => none
  | some (.inl s) => C M s
  | some (.inr (.inl r)) => some r
  | some (.inr (.inr (M', as, pc, ls, st))) => mcont (C M) pc ls st (mcal C M' as a h)
def mrun : Nat → Nat → MS → Option MR
  | 0, _, _ => none
  | n + 1, M, s => mnext (mrun n) M s.2.2.2.1 s.2.2.2.2 (mstep M s)
theorem mnext_mono {C C' : Nat → MS → Option MR} (h : ∀ M s r, C M s = some r → C' M s = some r) {M : Nat} {a : MA} {H : MH} {o : Option MAct} {r : MR} (e : mnext C M a H o = some r) : mnext C' M a H o = some r := by
  match o, e with
  | none, e => exact e
  | some (.inl s), e => exact h _ _ _ e
  | some (.inr (.inl q)), e => exact e
  | some (.inr (.inr (M', as, pc, ls, st))), e =>
    simp only [mnext] at e ⊢
    cases hc : mcal C M' as a H with
    | none => rw [hc] at e; cases e
    | some q =>
      rw [hc] at e
      obtain ⟨hl, hc⟩ := mcal_some hc
      rw [mcal_of hl (h _ _ _ hc)]
      obtain ⟨v, a1, h1⟩ := q
      exact h _ _ _ e
theorem mrun_succ : ∀ (n M : Nat) (s : MS) (r : MR), mrun n M s = some r → mrun (n + 1) M s = some r
  | 0, _, _, _, e => by cases e
  | n + 1, M, s, r, e => mnext_mono (fun M s r => mrun_succ n M s r) e
theorem mrun_le {n m M : Nat} {s : MS} {r : MR} (h : n ≤ m) (e : mrun n M s = some r) : mrun m M s = some r := by
  induction h with
  | refl => exact e
  | step _ ih => exact mrun_succ _ _ _ _ ih
theorem mrun_lim (M : Nat) (s : MS) : ∃ o : Option MR, ∀ r, o = some r ↔ ∃ n, mrun n M s = some r := by
  by_cases h : ∃ r n, mrun n M s = some r
  · obtain ⟨r, n, e⟩ := h
    refine ⟨some r, fun q => ⟨fun z => by cases z; exact ⟨n, e⟩, fun ⟨m, e'⟩ => ?_⟩⟩
    have h1 := mrun_le (Nat.le_max_left n m) e
    have h2 := mrun_le (Nat.le_max_right n m) e'
    exact h1.symm.trans h2
  · exact ⟨none, fun q => ⟨fun z => (nomatch z), fun ⟨n, e⟩ => absurd ⟨q, n, e⟩ h⟩⟩
/-- what a method comes to, from a state; none: it doesn't end, or does what the small machine doesn't -/
noncomputable def Rn (M : Nat) (s : MS) : Option MR := Classical.choose (mrun_lim M s)
theorem Rn_iff {M : Nat} {s : MS} {r : MR} : Rn M s = some r ↔ ∃ n, mrun n M s = some r := Classical.choose_spec (mrun_lim M s) r
theorem Rn_of {M : Nat} {s : MS} {r : MR} (n : Nat) (h : mrun n M s = some r) : Rn M s = some r := Rn_iff.mpr ⟨n, h⟩
theorem Rn_eq (M : Nat) (s : MS) : Rn M s = mnext Rn M s.2.2.2.1 s.2.2.2.2 (mstep M s) := by
  have key : ∀ r, Rn M s = some r ↔ mnext Rn M s.2.2.2.1 s.2.2.2.2 (mstep M s) = some r := by
    intro r
    constructor
    · intro e
      obtain ⟨n, e⟩ := Rn_iff.mp e
      cases n with
      | zero => cases e
      | succ n => exact mnext_mono (fun M s r h => Rn_of n h) e
    · intro e
      have : ∃ n, mnext (mrun n) M s.2.2.2.1 s.2.2.2.2 (mstep M s) = some r := by
        match hs : mstep M s, e with
        | none, e => cases e
        | some (.inl s'), e => exact Rn_iff.mp e
        | some (.inr (.inl q)), e => exact ⟨0, e⟩
        | some (.inr (.inr (M', as, pc, ls, st))), e =>
          simp only [mnext] at e ⊢
          cases hc : mcal Rn M' as s.2.2.2.1 s.2.2.2.2 with
          | none => rw [hc] at e; cases e
          | some q =>
            rw [hc] at e
            obtain ⟨v, a1, h1⟩ := q
            obtain ⟨hl, hc⟩ := mcal_some hc
            obtain ⟨n1, e1⟩ := Rn_iff.mp hc
            obtain ⟨n2, e2⟩ := Rn_iff.mp e
            refine ⟨max n1 n2, ?_⟩
            rw [mcal_of hl (mrun_le (Nat.le_max_left n1 n2) e1)]
            exact mrun_le (Nat.le_max_right n1 n2) e2
      obtain ⟨n, e⟩ := this
      exact Rn_of (n + 1) e
  cases h1 : Rn M s with
  | some r => exact ((key r).mp h1).symm
  | none =>
    cases h2 : mnext Rn M s.2.2.2.1 s.2.2.2.2 (mstep M s) with
    | none => rfl
    | some r => rw [(key r).mpr h2] at h1; cases h1
/-- a call: what a method comes to from its start -/
noncomputable def Ec (M : Nat) (as : List Value) (a : MA) (h : MH) : Option MR := mcal Rn M as a h
theorem Ec_go {M : Nat} {as : List Value} {a : MA} {h : MH} (hl : Nat.ble (mlay as).length (mml M) = true) : Ec M as a h = Rn M (0, mini (mml M) as, [], a, h) := if_pos (Nat.le_of_ble_eq_true hl)
/-- behind a call -/
noncomputable def Bk (M pc : Nat) (ls : ML) (st : List Value) (o : Option MR) : Option MR := mcont (Rn M) pc ls st o
theorem Bk_some {M pc : Nat} {ls : ML} {st : List Value} {v : Value} {a : MA} {h : MH} : Bk M pc ls st (some (some v, a, h)) = Rn M (pc, ls, v :: st, a, h) := rfl
theorem Bk_void {M pc : Nat} {ls : ML} {st : List Value} {a : MA} {h : MH} : Bk M pc ls st (some (none, a, h)) = Rn M (pc, ls, st, a, h) := rfl
section Rules
variable {M pc t n : Nat} {ls : ML} {st : List Value} {a : MA} {h : MH} {x y z : Nat} {c : Int}
theorem Rn_act {i : MI} (hc : mcode M pc = some i) : Rn M (pc, ls, st, a, h) = mnext Rn M a h (mact i pc ls st a h) := by
  rw [Rn_eq]; simp only [mstep, hc]
theorem Rn_go {i : MI} {s : MS} (hc : mcode M pc = some i) (ha : mact i pc ls st a h = some (.inl s)) : Rn M (pc, ls, st, a, h) = Rn M s := by
  rw [Rn_act hc, ha]; rfl
theorem Rn_jx {off : Int} (hj : mjmp pc off = some t) : mnext Rn M a h (jx pc off ls st a h) = Rn M (t, ls, st, a, h) := by
  simp only [jx, hj]; rfl
/-- a branch on a condition, told by '<' or '=' -/
theorem Rn_if {P : Prop} [Decidable P] {b : Bool} {A B : Option MAct} {u v : Option MR} (hP : (b = true) = P) (hA : mnext Rn M a h A = u) (hB : mnext Rn M a h B = v) : mnext Rn M a h (if b = true then A else B) = if P then u else v := by
  subst hA; subst hB; subst hP
  by_cases q : b = true
  · rw [if_pos q]; split
    · rfl
    · rename_i w; exact absurd q w
  · rw [if_neg q]; split
    · rename_i w; exact absurd w q
    · rfl
theorem Rn_ifn {P : Prop} [Decidable P] {b : Bool} {A B : Option MAct} {u v : Option MR} (hP : (b = true) = ¬ P) (hA : mnext Rn M a h A = u) (hB : mnext Rn M a h B = v) : mnext Rn M a h (if b = true then A else B) = if P then v else u := by
  subst hA; subst hB
  by_cases q : P
  · rw [if_pos q, if_neg (by rw [hP]; exact fun w => w q)]
  · rw [if_neg q, if_pos (by rw [hP]; exact q)]
theorem mc_eq {x y : Int32} : (mcond .eq x y = true) = (x = y) := by simp [mcond]
theorem mc_ne {x y : Int32} : (mcond .ne x y = true) = ¬ (x = y) := by simp [mcond]
theorem mc_lt {x y : Int32} : (mcond .lt x y = true) = (x < y) := by simp [mcond]
theorem mc_ge {x y : Int32} : (mcond .ge x y = true) = ¬ (x < y) := by simp [mcond]
theorem mc_gt {x y : Int32} : (mcond .gt x y = true) = (y < x) := by simp [mcond]
theorem mc_le {x y : Int32} : (mcond .le x y = true) = ¬ (y < x) := by simp [mcond]
theorem Rn_icmp {cc : Jvm.ClassFile.Cond} {off : Int} {P : Prop} [Decidable P] {t2 : Nat} {u v : Int32} (hc : mcode M pc = some (.if_icmp cc off, n, x, y, c)) (hP : (mcond cc u v = true) = P) (hj : mjmp pc off = some t) (h2 : pc + n = t2) :
    Rn M (pc, ls, .int v :: .int u :: st, a, h) = if P then Rn M (t, ls, st, a, h) else Rn M (t2, ls, st, a, h) := by
  rw [Rn_act hc]; subst h2; exact Rn_if hP (Rn_jx hj) rfl
theorem Rn_icmpn {cc : Jvm.ClassFile.Cond} {off : Int} {P : Prop} [Decidable P] {t2 : Nat} {u v : Int32} (hc : mcode M pc = some (.if_icmp cc off, n, x, y, c)) (hP : (mcond cc u v = true) = ¬ P) (hj : mjmp pc off = some t) (h2 : pc + n = t2) :
    Rn M (pc, ls, .int v :: .int u :: st, a, h) = if P then Rn M (t2, ls, st, a, h) else Rn M (t, ls, st, a, h) := by
  rw [Rn_act hc]; subst h2; exact Rn_ifn hP (Rn_jx hj) rfl
theorem Rn_ifc {cc : Jvm.ClassFile.Cond} {off : Int} {P : Prop} [Decidable P] {t2 : Nat} {u : Int32} (hc : mcode M pc = some (.ifCond cc off, n, x, y, c)) (hP : (mcond cc u 0 = true) = P) (hj : mjmp pc off = some t) (h2 : pc + n = t2) :
    Rn M (pc, ls, .int u :: st, a, h) = if P then Rn M (t, ls, st, a, h) else Rn M (t2, ls, st, a, h) := by
  rw [Rn_act hc]; subst h2; exact Rn_if hP (Rn_jx hj) rfl
theorem Rn_ifcn {cc : Jvm.ClassFile.Cond} {off : Int} {P : Prop} [Decidable P] {t2 : Nat} {u : Int32} (hc : mcode M pc = some (.ifCond cc off, n, x, y, c)) (hP : (mcond cc u 0 = true) = ¬ P) (hj : mjmp pc off = some t) (h2 : pc + n = t2) :
    Rn M (pc, ls, .int u :: st, a, h) = if P then Rn M (t2, ls, st, a, h) else Rn M (t, ls, st, a, h) := by
  rw [Rn_act hc]; subst h2; exact Rn_ifn hP (Rn_jx hj) rfl
theorem Rn_goto {off : Int} (hc : mcode M pc = some (.goto off, n, x, y, c)) (hj : mjmp pc off = some t) : Rn M (pc, ls, st, a, h) = Rn M (t, ls, st, a, h) := by
  rw [Rn_act hc]; exact Rn_jx hj
/-- what comes behind a read, a write of the heap -/
noncomputable def Kv (M pc : Nat) (ls : ML) (st : List Value) (a : MA) (h : MH) (o : Option Value) : Option MR := match o with
  | some v => Rn M (pc, ls, v :: st, a, h)
  | none => none
noncomputable def Ki (M pc : Nat) (ls : ML) (st : List Value) (a : MA) (h : MH) (o : Option Int32) : Option MR := match o with
  | some v => Rn M (pc, ls, .int v :: st, a, h)
  | none => none
noncomputable def Kh (M pc : Nat) (ls : ML) (st : List Value) (a : MA) (o : Option MH) : Option MR := match o with
  | some h => Rn M (pc, ls, st, a, h)
  | none => none
theorem Kv_some {v : Value} : Kv M pc ls st a h (some v) = Rn M (pc, ls, v :: st, a, h) := rfl
theorem Ki_some {v : Int32} : Ki M pc ls st a h (some v) = Rn M (pc, ls, .int v :: st, a, h) := rfl
theorem Kh_some : Kh M pc ls st a (some h) = Rn M (pc, ls, st, a, h) := rfl
theorem Rn_getf {j q : Nat} (hc : mcode M pc = some (.getfield j, n, x, y, c)) (h2 : pc + n = t) : Rn M (pc, ls, .ref q :: st, a, h) = Kv M t ls st a h (mgf h q x y) := by
  rw [Rn_act hc]; subst h2
  show mnext Rn M a h (match mgf h q x y with | some v => nx (pc + n) ls (v :: st) a h | none => none) = _
  cases mgf h q x y <;> rfl
theorem Rn_putf {j q : Nat} {v : Value} {z : Nat} (hc : mcode M pc = some (.putfield j, n, x, y, c)) (h2 : pc + n = t) (hz : c.toNat = z) : Rn M (pc, ls, v :: .ref q :: st, a, h) = if mok z v = true then Kh M t ls st a (mpf h q x y v) else none := by
  rw [Rn_act hc]; subst h2; subst hz
  show mnext Rn M a h (if mok c.toNat v = true then (match mpf h q x y v with | some h' => nx (pc + n) ls st a h' | none => none) else none) = _
  by_cases hm : mok c.toNat v = true
  · rw [if_pos hm, if_pos hm]; cases mpf h q x y v <;> rfl
  · rw [if_neg hm, if_neg hm]; rfl
theorem Rn_putfi {j q : Nat} {v : Int32} (hc : mcode M pc = some (.putfield j, n, x, y, c)) (h2 : pc + n = t) (hz : c.toNat = 0) : Rn M (pc, ls, .int v :: .ref q :: st, a, h) = Kh M t ls st a (mpf h q x y (.int v)) := by
  rw [Rn_putf hc h2 hz]; rfl
theorem Rn_putfr {j q p : Nat} (hc : mcode M pc = some (.putfield j, n, x, y, c)) (h2 : pc + n = t) (hz : c.toNat = 2) : Rn M (pc, ls, .ref p :: .ref q :: st, a, h) = Kh M t ls st a (mpf h q x y (.ref p)) := by
  rw [Rn_putf hc h2 hz]; rfl
theorem Rn_iald {q : Nat} {k : Int32} (hc : mcode M pc = some (.iaload, n, x, y, c)) (h2 : pc + n = t) : Rn M (pc, ls, .int k :: .ref q :: st, a, h) = Ki M t ls st a h (mld h q k false) := by
  rw [Rn_act hc]; subst h2
  show mnext Rn M a h (match mld h q k false with | some v => nx (pc + n) ls (.int v :: st) a h | none => none) = _
  cases mld h q k false <;> rfl
theorem Rn_bald {q : Nat} {k : Int32} (hc : mcode M pc = some (.baload, n, x, y, c)) (h2 : pc + n = t) : Rn M (pc, ls, .int k :: .ref q :: st, a, h) = Ki M t ls st a h (mld h q k true) := by
  rw [Rn_act hc]; subst h2
  show mnext Rn M a h (match mld h q k true with | some v => nx (pc + n) ls (.int v :: st) a h | none => none) = _
  cases mld h q k true <;> rfl
theorem Rn_iast {q : Nat} {k v : Int32} (hc : mcode M pc = some (.iastore, n, x, y, c)) (h2 : pc + n = t) : Rn M (pc, ls, .int v :: .int k :: .ref q :: st, a, h) = Kh M t ls st a (mias h q k v) := by
  rw [Rn_act hc]; subst h2
  show mnext Rn M a h (match mias h q k v with | some h' => nx (pc + n) ls st a h' | none => none) = _
  cases mias h q k v <;> rfl
theorem Rn_aald {q : Nat} {k : Int32} (hc : mcode M pc = some (.aaload, n, x, y, c)) (h2 : pc + n = t) : Rn M (pc, ls, .int k :: .ref q :: st, a, h) = Kv M t ls st a h (mald h q k) := by
  rw [Rn_act hc]; subst h2
  show mnext Rn M a h (match mald h q k with | some v => nx (pc + n) ls (v :: st) a h | none => none) = _
  cases mald h q k <;> rfl
theorem Rn_aast {q v : Nat} {k : Int32} (hc : mcode M pc = some (.aastore, n, x, y, c)) (h2 : pc + n = t) : Rn M (pc, ls, .ref v :: .int k :: .ref q :: st, a, h) = Kh M t ls st a (maas h q k v) := by
  rw [Rn_act hc]; subst h2
  show mnext Rn M a h (match maas h q k v with | some h' => nx (pc + n) ls st a h' | none => none) = _
  cases maas h q k v <;> rfl
theorem Rn_alen {q : Nat} (hc : mcode M pc = some (.arraylength, n, x, y, c)) (h2 : pc + n = t) : Rn M (pc, ls, .ref q :: st, a, h) = Ki M t ls st a h (mlen h q) := by
  rw [Rn_act hc]; subst h2
  show mnext Rn M a h (match mlen h q with | some v => nx (pc + n) ls (.int v :: st) a h | none => none) = _
  cases mlen h q <;> rfl
theorem Rn_copy {j q0 q1 : Nat} {m dp sp : Int32} (hc : mcode M pc = some (.invokestatic j, n, 9998, y, c)) (h2 : pc + n = t) (hs : mcat st ≤ 8) : Rn M (pc, ls, .int m :: .int dp :: .ref q1 :: .int sp :: .ref q0 :: st, a, h) = Kh M t ls st a (mcp h q0 sp q1 dp m) := by
  rw [Rn_act hc]; subst h2
  show mnext Rn M a h (if mcat st ≤ 8 then (match mcp h q0 sp q1 dp m with | some h' => nx (pc + n) ls st a h' | none => none) else none) = _
  rw [if_pos hs]
  cases mcp h q0 sp q1 dp m <;> rfl
/-- a division by what isn't 0 -/
theorem Rn_idiv {u v : Int32} (hc : mcode M pc = some (.idiv, n, x, y, c)) (h2 : pc + n = t) : Rn M (pc, ls, .int v :: .int u :: st, a, h) = if v = 0 then none else Rn M (t, ls, .int (u / v) :: st, a, h) := by
  rw [Rn_act hc]; subst h2
  show mnext Rn M a h (if v = 0 then none else nx (pc + n) ls (.int (u / v) :: st) a h) = _
  by_cases q : v = 0
  · rw [if_pos q, if_pos q]; rfl
  · rw [if_neg q, if_neg q]; rfl
theorem Rn_irem {u v : Int32} (hc : mcode M pc = some (.irem, n, x, y, c)) (h2 : pc + n = t) : Rn M (pc, ls, .int v :: .int u :: st, a, h) = if v = 0 then none else Rn M (t, ls, .int (u % v) :: st, a, h) := by
  rw [Rn_act hc]; subst h2
  show mnext Rn M a h (if v = 0 then none else nx (pc + n) ls (.int (u % v) :: st) a h) = _
  by_cases q : v = 0
  · rw [if_pos q, if_pos q]; rfl
  · rw [if_neg q, if_neg q]; rfl
theorem Rn_ldiv {u v : Int64} (hc : mcode M pc = some (.ldiv, n, x, y, c)) (h2 : pc + n = t) : Rn M (pc, ls, .long v :: .long u :: st, a, h) = if v = 0 then none else Rn M (t, ls, .long (u / v) :: st, a, h) := by
  rw [Rn_act hc]; subst h2
  show mnext Rn M a h (if v = 0 then none else nx (pc + n) ls (.long (u / v) :: st) a h) = _
  by_cases q : v = 0
  · rw [if_pos q, if_pos q]; rfl
  · rw [if_neg q, if_neg q]; rfl
theorem Rn_lrem {u v : Int64} (hc : mcode M pc = some (.lrem, n, x, y, c)) (h2 : pc + n = t) : Rn M (pc, ls, .long v :: .long u :: st, a, h) = if v = 0 then none else Rn M (t, ls, .long (u % v) :: st, a, h) := by
  rw [Rn_act hc]; subst h2
  show mnext Rn M a h (if v = 0 then none else nx (pc + n) ls (.long (u % v) :: st) a h) = _
  by_cases q : v = 0
  · rw [if_pos q, if_pos q]; rfl
  · rw [if_neg q, if_neg q]; rfl
/-- a store into a local: what stands before it must not be a long -/
noncomputable def Nl (o : Option Value) (r : Option MR) : Option MR := if mlg o = true then none else r
theorem Nl_none {r : Option MR} : Nl none r = r := rfl
theorem Nl_int {v : Int32} {r : Option MR} : Nl (some (.int v)) r = r := rfl
theorem Nl_ref {v : Nat} {r : Option MR} : Nl (some (.ref v)) r = r := rfl
theorem Nl_null {r : Option MR} : Nl (some .null) r = r := rfl
theorem Rn_ireti {v : Int32} (hc : mcode M pc = some (.ireturn, n, 0, y, c)) : Rn M (pc, ls, [.int v], a, h) = some (some (.int v), a, h) := by
  rw [Rn_act hc]; rfl
theorem Rn_iretz {v : Int32} {z : Nat} (hc : mcode M pc = some (.ireturn, n, z, y, c)) : Rn M (pc, ls, [.int v], a, h) = if mrt z v = true then some (some (.int v), a, h) else none := by
  rw [Rn_act hc]
  show mnext Rn M a h (if mrt z v = true then some (.inr (.inl (some (.int v), a, h))) else none) = _
  by_cases q : mrt z v = true
  · rw [if_pos q, if_pos q]; rfl
  · rw [if_neg q, if_neg q]; rfl
theorem Rn_sw {v : Int32} {lo hi d : Int} {offs : Array Int} (hc : mcode M pc = some (.tableswitch d lo hi offs, n, x, y, c)) : Rn M (pc, ls, .int v :: st, a, h) = mnext Rn M a h (match msw v lo hi d offs with | some off => jx pc off ls st a h | none => none) := by
  rw [Rn_act hc]; rfl
theorem Rn_swAt {v : Int32} {lo hi d off : Int} {offs : Array Int} (hc : mcode M pc = some (.tableswitch d lo hi offs, n, x, y, c)) (hv : msw v lo hi d offs = some off) (hj : mjmp pc off = some t) : Rn M (pc, ls, .int v :: st, a, h) = Rn M (t, ls, st, a, h) := by
  rw [Rn_sw hc, hv]; exact Rn_jx hj
theorem Rn_call0 {j M' na : Nat} {as r : List Value} (hc : mcode M pc = some (.invokestatic j, n, M', na, c)) (hM : ¬ M' = 9998) (h2 : pc + 3 = t) (hl : na ≤ st.length) (hr : st.drop na = r) (has : (st.take na).reverse = as) (hcat : mcat r ≤ 8) : Rn M (pc, ls, st, a, h) = Bk M t ls r (Ec M' as a h) := by
  rw [Rn_act hc]; subst h2; subst hr; subst has
  show mnext Rn M a h (if M' = 9998 then _ else (if st.length < na then none else if mcat (st.drop na) ≤ 8 then some (.inr (.inr (M', (st.take na).reverse, pc + 3, ls, st.drop na))) else none)) = _
  rw [if_neg hM, if_neg (Nat.not_lt.mpr hl), if_pos hcat]; rfl
theorem Rn_call1 {j M' na b : Nat} {as r : List Value} (hc : mcode M pc = some (.invokevirtual j, n, M', na, c)) (h2 : pc + 3 = t) (hl : na ≤ st.length) (hr : st.drop na = .ref b :: r) (has : (st.take na).reverse = as) (hcat : mcat r ≤ 8) : Rn M (pc, ls, st, a, h) = if mis h b c = true then Bk M t ls r (Ec M' (.ref b :: as) a h) else none := by
  rw [Rn_act hc]; subst h2; subst has
  show mnext Rn M a h (if st.length < na then none else (match st.drop na with | .ref b :: r => if mis h b c = true ∧ mcat r ≤ 8 then some (.inr (.inr (M', .ref b :: (st.take na).reverse, pc + 3, ls, r))) else none | _ => none)) = _
  rw [if_neg (Nat.not_lt.mpr hl), hr]
  show mnext Rn M a h (if mis h b c = true ∧ mcat r ≤ 8 then _ else none) = _
  by_cases q : mis h b c = true
  · rw [if_pos q, if_pos ⟨q, hcat⟩]; rfl
  · rw [if_neg q, if_neg (fun w => q w.1)]; rfl
theorem Rn_call2 {j M' na b : Nat} {as r : List Value} (hc : mcode M pc = some (.invokespecial j, n, M', na, c)) (hM : ¬ M' = 9999) (h2 : pc + 3 = t) (hl : na ≤ st.length) (hr : st.drop na = .ref b :: r) (has : (st.take na).reverse = as) (hcat : mcat r ≤ 8) : Rn M (pc, ls, st, a, h) = Bk M t ls r (Ec M' (.ref b :: as) a h) := by
  rw [Rn_act hc]; subst h2; subst has
  show mnext Rn M a h (if M' = 9999 then _ else (if st.length < na then none else (match st.drop na with | .ref b :: r => if mcat r ≤ 8 then some (.inr (.inr (M', .ref b :: (st.take na).reverse, pc + 3, ls, r))) else none | _ => none))) = _
  rw [if_neg hM, if_neg (Nat.not_lt.mpr hl), hr]
  show mnext Rn M a h (if mcat r ≤ 8 then _ else none) = _
  rw [if_pos hcat]; rfl
theorem Rn_st1 {i : MI} {k : Nat} {v : Value} {ls' : ML} {st' : List Value} (o : Option Value) (hc : mcode M pc = some i) (ha : mact i pc ls st a h = (match mst1 ls k v with | some ls' => nx t ls' st' a h | none => none)) (hk : Nat.ble (k + 1) ls.length = true) (ho : mprev ls k = mlg o) (hls : ls.set k (some v) = ls') : Rn M (pc, ls, st, a, h) = Nl o (Rn M (t, ls', st', a, h)) := by
  rw [Rn_act hc, ha]; subst hls
  have hk' : k < ls.length := Nat.le_of_ble_eq_true hk
  simp only [mst1, if_pos hk', ho, Nl]
  by_cases q : mlg o = true
  · simp only [if_pos q]; rfl
  · simp only [if_neg q]; rfl
theorem Rn_st2 {i : MI} {k : Nat} {v : Value} {ls' : ML} {st' : List Value} (o : Option Value) (hc : mcode M pc = some i) (ha : mact i pc ls st a h = (match mst2 ls k v with | some ls' => nx t ls' st' a h | none => none)) (hk : Nat.ble (k + 2) ls.length = true) (ho : mprev ls k = mlg o) (hls : (ls.set k (some v)).set (k + 1) none = ls') : Rn M (pc, ls, st, a, h) = Nl o (Rn M (t, ls', st', a, h)) := by
  rw [Rn_act hc, ha]; subst hls
  have hk' : k + 1 < ls.length := Nat.le_of_ble_eq_true hk
  simp only [mst2, if_pos hk', ho, Nl]
  by_cases q : mlg o = true
  · simp only [if_pos q]; rfl
  · simp only [if_neg q]; rfl
theorem Rn_new {j ci N b cc d : Nat} (hc : mcode M pc = some (.new j, n, ci, y, c)) (hN : (mdf ci).length = N) (hb : b < 999) : Rn M (pc, ls, st, (b, cc, d), h) = Rn M (pc + n, ls, .ref b :: st, (b + 1, cc + 1, d + N), mup h b (.inr (.inr (ci, mdf ci)))) := by
  rw [Rn_act hc]; subst hN
  show mnext Rn M _ h (if b < 999 then _ else none) = _
  rw [if_pos hb]; rfl
theorem Rn_newarray {ty : ArrayType} {b cc d : Nat} {i : Int32} (hc : mcode M pc = some (.newarray ty, n, x, y, c)) (h2 : pc + n = t) (hi : ¬ i < 0) (hj : i.toNatClampNeg ≤ 65536) (hb : b < 999) : Rn M (pc, ls, .int i :: st, (b, cc, d), h) = Rn M (t, ls, .ref b :: st, (b + 1, cc + 1, d + i.toNatClampNeg), mup h b (.inl (i.toNatClampNeg, fun _ => 0))) := by
  rw [Rn_act hc]; subst h2
  show mnext Rn M _ h (if i < 0 then none else if i.toNatClampNeg ≤ 65536 ∧ b < 999 then _ else none) = _
  rw [if_neg hi, if_pos ⟨hj, hb⟩]; rfl
theorem Rn_anewarray {k ci b cc d : Nat} {i : Int32} (hc : mcode M pc = some (.anewarray k, n, ci, y, c)) (h2 : pc + n = t) (hi : ¬ i < 0) (hj : i.toNatClampNeg ≤ 65536) (hb : b < 999) : Rn M (pc, ls, .int i :: st, (b, cc, d), h) = Rn M (t, ls, .ref b :: st, (b + 1, cc + 1, d + i.toNatClampNeg), mup h b (.inr (.inl (ci, i.toNatClampNeg, fun _ => none)))) := by
  rw [Rn_act hc]; subst h2
  show mnext Rn M _ h (if i < 0 then none else if i.toNatClampNeg ≤ 65536 ∧ b < 999 then _ else none) = _
  rw [if_neg hi, if_pos ⟨hj, hb⟩]; rfl
end Rules
