/-! ===== OUTSIDE: what the world's methods read and never write ===== -/
def kaL : List Value := [.int (-1), .int 0, .int 0, .int 2, .int 3, .int 0, .int 5]
def OutS (sv : Value) (ao : Nat → Nat) (xs : List Int32) (A : Nat → Prop) (U : State) (H : Heap) : Prop :=
  vk_S 13 slen sbyt (fun i => ao (1000 + i)) (fun i => ao (1100 + i)) A U H ∧ (∀ i, i < 13 → vk_R "SoakTub$TextReader" (sidx i) (stx i) (ao (1000 + i)) U) ∧
  va_Z "java/lang/String" "COMPACT_STRINGS" "Z" (.int 1) A U H ∧ va_Z "jdk/internal/util/Preconditions" "SIOOBE_FORMATTER" "Ljava/util/function/BiFunction;" sv A U H ∧
  va_Z "SoakTub" "KIND_ABOVE" "[I" (.ref (ao 1300)) A U H ∧ va_T .int (ao 1300) 7 (fun j => kaL.getD j .null) A U H ∧ va_T .int (ao 1200) xs.length (fun j => .int (xs.getD j 0)) A U H ∧
  va_AO "SoakTub$Thing" U ∧ va_AO "SoakTub$Sheet" U ∧ ∀ q ∈ nests, va_Nw (.methodLinkNest (mown q.1) q.2.1 q.2.2 "SoakTub") U
theorem OutS.moved {sv : Value} {ao : Nat → Nat} {xs : List Int32} {A : Nat → Prop} {s U : State} {H : Heap} (hW : s.WarmedH U.vm) (h : OutS sv ao xs A s H) : OutS sv ao xs A U H := by
  obtain ⟨h1, h2, h3, h4, h5, h6, h7, h8, h9, h10⟩ := h
  have hvm := hW.alike
  exact ⟨vk_S.moved hvm h1, fun i hi => vk_R.warm hW (h2 i hi), va_Z.moved hvm h3, va_Z.moved hvm h4, va_Z.moved hvm h5, va_T.moved hvm h6, va_T.moved hvm h7, va_AO.moved hvm h8, va_AO.moved hvm h9, fun q hq => va_Nw.warmM hW (h10 q hq)⟩
theorem OutS.kept {sv : Value} {ao : Nat → Nat} {xs : List Int32} {A : Nat → Prop} {U : State} {H H1 : Heap} (h : OutS sv ao xs A U H) (hq : ∀ a : Nat, a < H.size → ¬ A a → H1[a]? = H[a]?) : OutS sv ao xs A U H1 := by
  obtain ⟨h1, h2, h3, h4, h5, h6, h7, h8, h9, h10⟩ := h
  exact ⟨h1.kept hq, h2, h3.kept hq, h4.kept hq, h5.kept hq, h6.kept hq, h7.kept hq, h8, h9, h10⟩
theorem OutS.narrow {sv : Value} {ao : Nat → Nat} {xs : List Int32} {A B : Nat → Prop} {U : State} {H : Heap} (h : OutS sv ao xs A U H) (hAB : ∀ q, B q → A q) : OutS sv ao xs B U H := by
  obtain ⟨h1, h2, h3, h4, h5, h6, h7, h8, h9, h10⟩ := h
  exact ⟨h1.narrow hAB, h2, h3.narrow hAB, h4.narrow hAB, h5.narrow hAB, h6.narrow hAB, h7.narrow hAB, h8, h9, h10⟩
/-- what holds throughout a method's walk -/
def Cx (p : Program) (R : Room) (s : State) (m : MethodId) (args : Array Value) (meth : Method) (c : Code) (A : Nat → Prop) (xs : List Int32) (sv : Value) (ao : Nat → Nat) (Z : ClassId × ClassId × ClassId) (D : va_G) (f : MInfo) (nL : Nat) : Prop :=
  p.tables.exec = Jvm.exec ∧ c.code = f.2.2.1 ∧ c.maxLocals = nL ∧ s.vm.findClass (mown f.1) = some m.cls ∧ (∀ w ∈ wtbl, w.before args s = true) ∧ va_K D vwCl (tysZ Z) s ∧ (∀ q, s.heap.size ≤ q → A q) ∧ OutS sv ao xs A s s.heap ∧
  (f.2.2.2.2.2 = 2 → meth.name = "<init>") ∧ f.2.2.2.2.1 ≤ R.frames ∧ 37 * f.2.2.2.2.1 ≤ R.locals ∧ sv.category = 1
/-- the small machine's state stands here -/
def Rp (s : State) (A : Nat → Prop) (xs : List Int32) (sv : Value) (ao : Nat → Nat) (Z : ClassId × ClassId × ClassId) (D : va_G) (nL : Nat) (ad : Nat → Nat) (n : Nat) (h : MH) (H : Heap) (locs : List Loc) (ls' : Array Slot) (ls : ML) (st : List Value) : Prop :=
  va_P D vwCl (wsl Z sv ad n h) H ∧ va_D A (wsl Z sv ad n h) ∧ va_S A s.heap H locs ∧ hin xs n h ∧ lin n ls ∧ sin n st ∧ lrep (tv sv ad) ls' ls ∧ (∀ k, 1000 ≤ k → ad k = ao k) ∧ ls.length = nL
theorem sin_tl {n : Nat} {v : Value} {st : List Value} (h : sin n (v :: st)) : sin n st := fun u hu => h u (List.mem_cons_of_mem _ hu)
theorem sin_hd {n : Nat} {v : Value} {st : List Value} (h : sin n (v :: st)) : clo n v := h v List.mem_cons_self
theorem sin_c {n : Nat} {v : Value} {st : List Value} (hv : clo n v) (h : sin n st) : sin n (v :: st) := fun u hu => (List.mem_cons.mp hu).elim (fun e => e ▸ hv) (h u)
theorem clo_int {n : Nat} {v : Int32} : clo n (.int v) := trivial
theorem clo_long {n : Nat} {v : Int64} : clo n (.long v) := trivial
theorem clo_null {n : Nat} : clo n .null := trivial
theorem sin.mono {n n' : Nat} {st : List Value} (h : sin n st) (hn : n ≤ n') : sin n' st := fun v hv => (h v hv).mono hn
theorem lin.mono {n n' : Nat} {ls : ML} (h : lin n ls) (hn : n ≤ n') : lin n' ls := fun v hv => (h v hv).mono hn
theorem lin_set {n : Nat} {ls : ML} {k : Nat} {v : Value} (h : lin n ls) (hv : clo n v) : lin n (ls.set k (some v)) := by
  intro u hu
  rcases List.mem_or_eq_of_mem_set hu with hu | hu
  · exact h u hu
  · cases hu; exact hv
theorem lin_set0 {n : Nat} {ls : ML} {k : Nat} (h : lin n ls) : lin n (ls.set k none) := by
  intro u hu
  rcases List.mem_or_eq_of_mem_set hu with hu | hu
  · exact h u hu
  · cases hu
theorem lin_get {n : Nat} {ls : ML} {k : Nat} {v : Value} (h : lin n ls) (hk : mget ls k = some v) : clo n v := by
  unfold mget at hk
  split at hk
  · rename_i u e; cases hk; exact h _ (List.mem_of_getElem? e)
  · cases hk
theorem tv_catf {sv : Value} {ad : Nat → Nat} (hsv : sv.category = 1) : ∀ v, (tv sv ad v).category = v.category := fun _ => tv_cat hsv
theorem lcmp_eq (x y : Int64) : lg_cmp x y = if x < y then -1 else if x = y then 0 else 1 := by
  unfold lg_cmp
  by_cases h1 : x < y
  · rw [if_pos h1, if_neg (lg_lt_not h1), if_neg (fun e => by subst e; exact lg_lt_not h1 h1)]
  · rw [if_neg h1]
    by_cases h2 : x = y
    · rw [if_pos h2, if_neg (by subst h2; exact h1), if_pos h2]
    · have h3 : x > y := by
        rcases Int64.lt_or_lt_of_ne h2 with q | q
        · exact absurd q h1
        · exact q
      rw [if_pos h3, if_neg h2]
theorem bm32 {n : Int} (h1 : -2 ^ 31 ≤ n) (h2 : n < 2 ^ 31) : n.bmod (2 ^ 32) = n := by
  rw [Int.bmod_def]; omega
theorem bm64 {n : Int} (h1 : -2 ^ 63 ≤ n) (h2 : n < 2 ^ 63) : n.bmod (2 ^ 64) = n := by
  rw [Int.bmod_def]; omega
theorem irem_eq (u v : Int32) : u % v = u - u / v * v := by
  apply Int32.toInt_inj.mp
  have h1 := Int32.le_toInt (u % v)
  have h2 := Int32.toInt_lt (u % v)
  rw [Int32.toInt_mod] at h1 h2
  rw [Int32.toInt_sub, Int32.toInt_mul, Int32.toInt_div, Int32.toInt_mod]
  have e : (u.toInt - (((u.toInt.tdiv v.toInt).bmod (2 ^ 32)) * v.toInt).bmod (2 ^ 32)).bmod (2 ^ 32) = (u.toInt - u.toInt.tdiv v.toInt * v.toInt).bmod (2 ^ 32) := by
    simp only [Int.bmod_mul_bmod, Int.sub_bmod_bmod]
  rw [e]
  have e2 : u.toInt - u.toInt.tdiv v.toInt * v.toInt = u.toInt.tmod v.toInt := by rw [Int.tmod_def, Int.mul_comm]
  rw [e2]
  exact (bm32 h1 h2).symm
theorem lrem_eq (u v : Int64) : u % v = u - u / v * v := by
  apply Int64.toInt_inj.mp
  have h1 := Int64.le_toInt (u % v)
  have h2 := Int64.toInt_lt (u % v)
  rw [Int64.toInt_mod] at h1 h2
  rw [Int64.toInt_sub, Int64.toInt_mul, Int64.toInt_div, Int64.toInt_mod]
  have e : (u.toInt - (((u.toInt.tdiv v.toInt).bmod (2 ^ 64)) * v.toInt).bmod (2 ^ 64)).bmod (2 ^ 64) = (u.toInt - u.toInt.tdiv v.toInt * v.toInt).bmod (2 ^ 64) := by
    simp only [Int.bmod_mul_bmod, Int.sub_bmod_bmod]
  rw [e]
  have e2 : u.toInt - u.toInt.tdiv v.toInt * v.toInt = u.toInt.tmod v.toInt := by rw [Int.tmod_def, Int.mul_comm]
  rw [e2]
  exact (bm64 h1 h2).symm
/-- a world's cell by its place -/
theorem hin_lt {xs : List Int32} {n : Nat} {h : MH} (hI : hin xs n h) {q : Nat} : (q < n ∧ wfc n (h q)) ∨ h q = mjunk ∨ (1000 ≤ q ∧ h q = outc xs q) := by
  rcases Nat.lt_or_ge q n with a | a
  · exact Or.inl ⟨a, hI.2.1 q a⟩
  · rcases Nat.lt_or_ge q 1000 with b | b
    · exact Or.inr (Or.inl (hI.2.2.1 q a b))
    · exact Or.inr (Or.inr ⟨b, hI.2.2.2 q b⟩)
theorem hin_up {xs : List Int32} {n : Nat} {h : MH} (hI : hin xs n h) {q : Nat} {c : MC} (hq : q < n) (hc : wfc n c) : hin xs n (mup h q c) := by
  refine ⟨hI.1, fun k hk => ?_, fun k h1 h2 => ?_, fun k hk => ?_⟩
  · unfold mup; by_cases e : k = q
    · rw [if_pos e]; exact hc
    · rw [if_neg e]; exact hI.2.1 k hk
  · unfold mup; rw [if_neg (by omega)]; exact hI.2.2.1 k h1 h2
  · unfold mup; rw [if_neg (by have := hI.1; omega)]; exact hI.2.2.2 k hk
theorem hin_push {xs : List Int32} {n : Nat} {h : MH} (hI : hin xs n h) {c : MC} (hn : n < 999) (hc : wfc (n + 1) c) : hin xs (n + 1) (mup h n c) := by
  refine ⟨by omega, fun k hk => ?_, fun k h1 h2 => ?_, fun k hk => ?_⟩
  · unfold mup; by_cases e : k = n
    · rw [if_pos e]; exact hc
    · rw [if_neg e]; exact (hI.2.1 k (by omega)).mono (Nat.le_succ n)
  · unfold mup; rw [if_neg (by omega)]; exact hI.2.2.1 k (by omega) h2
  · unfold mup; rw [if_neg (by omega)]; exact hI.2.2.2 k hk
theorem wt_link {k q : Nat} {w : Cond} {args : Array Value} {s : State} (hts : ∀ w ∈ wtbl, w.before args s = true) (h : wfind (wls k) q = some w) : w.before args s = true := hts w (wls_in k q w h)

