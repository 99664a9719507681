/-! ===== THE SMALL MACHINE IS SOUND ===== -/
theorem i2b_small {x : Int32} (h1 : -128 ≤ x) (h2 : x < 128) : x.toInt8.toInt32 = x := by
  have a1 : (-128 : Int) ≤ x.toInt := by have := Int32.le_iff_toInt_le.mp h1; simpa using this
  have a2 : x.toInt < 128 := by have := Int32.lt_iff_toInt_lt.mp h2; simpa using this
  have key : ∀ k : Fin 256, (Int32.ofInt ((k : Nat) - 128 : Int)).toInt8.toInt32 = Int32.ofInt ((k : Nat) - 128 : Int) := by decide +kernel
  have hk := key ⟨(x.toInt + 128).toNat, by omega⟩
  have e : (((x.toInt + 128).toNat : Nat) : Int) - 128 = x.toInt := by omega
  rw [show ((((⟨(x.toInt + 128).toNat, by omega⟩ : Fin 256) : Nat) : Int) - 128) = x.toInt from e, Int32.ofInt_toInt] at hk
  exact hk
theorem nar_of {ret : Option FieldType} {x : Int32} (h : mrt (rsort ret) x = true) : ∃ ty, ret = some ty ∧ narrow ty (.int x) = .int x := by
  cases ret with
  | none => cases h
  | some ty =>
    refine ⟨ty, rfl, ?_⟩
    cases ty with
    | int => rfl
    | boolean =>
      have h : (x == 0 || x == 1) = true := h
      simp only [Bool.or_eq_true, beq_iff_eq] at h
      rcases h with rfl | rfl <;> rfl
    | char =>
      have h : (decide (0 ≤ x) && decide (x < 65536)) = true := h
      simp only [Bool.and_eq_true, decide_eq_true_eq] at h
      have a1 : 0 ≤ x.toInt := by have := Int32.le_iff_toInt_le.mp h.1; simpa using this
      have a2 : x.toInt < 65536 := by have := Int32.lt_iff_toInt_lt.mp h.2; simpa using this
      exact congrArg Value.int (lg_i2c_small a1 a2)
    | byte =>
      have h : (decide (-128 ≤ x) && decide (x < 128)) = true := h
      simp only [Bool.and_eq_true, decide_eq_true_eq] at h
      exact congrArg Value.int (i2b_small h.1 h.2)
    | _ => cases h
/-- a method's start, its end -/
def PcG (Z : ClassId × ClassId × ClassId) (sv : Value) (ao : Nat → Nat) (xs : List Int32) (D : va_G) (ad : Nat → Nat) (n : Nat) (h : MH) (sz : Nat) (U : State) : Prop :=
  U.heap.size = sz ∧ va_P D vwCl (wsl Z sv ad n h) U.heap ∧ va_K D vwCl (tysZ Z) U ∧ va_D (fun _ => True) (wsl Z sv ad n h) ∧ OutS sv ao xs (va_A (wsl Z sv ad n h) sz) U U.heap
def QcG (Z : ClassId × ClassId × ClassId) (sv : Value) (ao : Nat → Nat) (xs : List Int32) (D : va_G) (ad : Nat → Nat) (n : Nat) (r : MR) (A : Nat → Prop) : Array Value → State → Outcome → State → Prop := fun _ st oc t =>
  (∃ ad' : Nat → Nat, (∀ k, k < n → ad' k = ad k) ∧ (∀ k, 1000 ≤ k → ad' k = ao k) ∧ oc = .returned (r.1.map (tv sv ad')) ∧ va_P D vwCl (wsl Z sv ad' r.2.1.1 r.2.2) t.heap ∧ va_D A (wsl Z sv ad' r.2.1.1 r.2.2) ∧ hin xs r.2.1.1 r.2.2 ∧ ∀ v, r.1 = some v → clo r.2.1.1 v) ∧ va_F A st t
theorem blindG {Z : ClassId × ClassId × ClassId} {sv : Value} {ao : Nat → Nat} {xs : List Int32} {D : va_G} {ad : Nat → Nat} {n : Nat} {h : MH} {sz : Nat} {av : List Value} : FrameBlind (va_Pc av (PcG Z sv ao xs D ad n h sz)) := by
  intro a U g mk q
  obtain ⟨q0, q1, q2, q3, q4, q5⟩ := q
  exact ⟨q0, q1, q2, va_K.moved (u := U) (U := U.calling g mk a) (Vm.Alike.refl U.vm) q3, q4, OutS.moved (s := U) (U := U.calling g mk a) (State.WarmedH.refl U) q5⟩
section
variable {p : Program} {l : Launch} {e : Env} {R : Room} {s : State} {m : MethodId} {args : Array Value} {below : List Frame} {meth : Method} {c : Code} {H : Heap} {locs : List Loc} {cells slots mc ms : Nat} {Q : State → Prop} {A0 A1 : Nat → Prop} {Z : ClassId × ClassId × ClassId} {sv : Value} {ao ad : Nat → Nat} {xs : List Int32} {D : va_G} {n pc : Nat} {r : MR} {ls : Array Slot} {st0 rest : List Value} {av : Array Value}
theorem run_go (hr : va_Run p l e R s m args below meth c H locs cells slots mc ms (F0 m pc ls st0) rest (QcG Z sv ao xs D ad n r A1 av) A1) (hS : va_S A0 s.heap H locs) (hA : ∀ q, A1 q → A0 q)
    (kk : ∀ (ad' : Nat → Nat) (H1 : Heap) (locs1 : List Loc), (∀ k, k < n → ad' k = ad k) → (∀ k, 1000 ≤ k → ad' k = ao k) → va_P D vwCl (wsl Z sv ad' r.2.1.1 r.2.2) H1 → va_D A0 (wsl Z sv ad' r.2.1.1 r.2.2) → va_S A0 s.heap H1 locs1 → hin xs r.2.1.1 r.2.2 → (∀ v, r.1 = some v → clo r.2.1.1 v) → W p l e R s m args below meth c H1 locs1 (cells + mc) (slots + ms) Q (F0 m (pc + 3) ls ((r.1.map (tv sv ad')).toList ++ rest))) :
    W p l e R s m args below meth c H locs cells slots Q (F0 m pc ls st0) := by
  intro T hT X
  obtain ⟨v, st₀, t, T', L, h0, X', hL, e1, e2, ⟨⟨ad', g1, g2, g3, g4, g5, g6, g7⟩, hz, hk⟩, st⟩ := hr T hT X
  cases g3
  rw [h0] at hz hk
  obtain ⟨t2, a1, b1⟩ := kk ad' T'.heap (locs ++ L) g1 g2 (by rw [e1]; exact g4) (g5.weaken (fun _ _ _ h => hA _ h)) ⟨Nat.le_trans hS.1 (by rw [e1]; exact hz), fun q h1 h2 => by rw [e1, hk q (Nat.lt_of_lt_of_le h1 hS.1) (fun z => h2 (hA q z))]; exact hS.2.1 q h1 h2, fun q hq => (List.mem_append.mp hq).elim (hS.2.2 q) (fun h => hA _ (hL q h))⟩ g6 g7 T' rfl X'
  exact ⟨t2, st t2 a1, b1⟩
end
set_option maxHeartbeats 4000000 in
theorem ret_cnt {i : MI} {pc : Nat} {ls : ML} {st : List Value} {a : MA} {h : MH} {r : MR} (e : mact i pc ls st a h = some (.inr (.inl r))) : r.2.1 = a := by
  obtain ⟨ins, len, x, y, c⟩ := i
  cases ins
  all_goals (delta mact nx jx mcall at e; dsimp only at e)
  all_goals (repeat' split at e)
  all_goals first | (cases e; done) | (cases e; rfl)
/-- soundness at some fuel -/
def SndAt (l : Launch) (n : Nat) : Prop := ∀ (M pc : Nat) (ls : ML) (st : List Value) (a : MA) (h : MH) (r : MR), mrun n M (pc, ls, st, a, h) = some r → M < 237 → isMM M = false → ∀ f : MInfo, mnfo M = some f →
  ∀ (p : Program) (e : Env) (R : Room) (s : State) (m : MethodId) (args : Array Value) (below : List Frame) (meth : Method) (c : Code) (H : Heap) (locs : List Loc) (Q : State → Prop) (A : Nat → Prop) (xs : List Int32) (sv : Value) (ao ad : Nat → Nat) (Z : ClassId × ClassId × ClassId) (D : va_G) (c0 s0 : Nat) (ls' : Array Slot),
  Cx p R s m args meth c A xs sv ao Z D f (mml M) → Rp s A xs sv ao Z D (mml M) ad a.1 h H locs ls' ls st → c0 ≤ a.2.1 → s0 ≤ a.2.2 → r.2.1.2.1 - c0 ≤ R.cells → r.2.1.2.2 - s0 ≤ R.slots →
  (∀ (pc' : Nat) (ad' : Nat → Nat) (H' : Heap) (locs' : List Loc) (ls'' : Array Slot), (∀ k, k < a.1 → ad' k = ad k) → (∀ k, 1000 ≤ k → ad' k = ao k) → va_P D vwCl (wsl Z sv ad' r.2.1.1 r.2.2) H' → va_D A (wsl Z sv ad' r.2.1.1 r.2.2) → va_S A s.heap H' locs' → hin xs r.2.1.1 r.2.2 → (∀ v, r.1 = some v → clo r.2.1.1 v) → RetI f pc' r.1 →
    W p l e R s m args below meth c H' locs' (r.2.1.2.1 - c0) (r.2.1.2.2 - s0) Q (F0 m pc' ls'' ((r.1.map (tv sv ad')).toList))) →
  W p l e R s m args below meth c H locs (a.2.1 - c0) (a.2.2 - s0) Q (F0 m pc ls' (st.map (tv sv ad)))
theorem mrun_cnt : ∀ (n M : Nat) (pc : Nat) (ls : ML) (st : List Value) (a : MA) (h : MH) (r : MR), mrun n M (pc, ls, st, a, h) = some r → a.1 ≤ r.2.1.1 ∧ a.2.1 ≤ r.2.1.2.1 ∧ a.2.2 ≤ r.2.1.2.2
  | 0, _, _, _, _, _, _, _, e => nomatch e
  | n + 1, M, pc, ls, st, a, h, r, e => by
    have e : mnext (mrun n) M a h (mstep M (pc, ls, st, a, h)) = some r := e
    unfold mstep at e
    cases hc : mcode M pc with
    | none => simp only [hc] at e; cases e
    | some i =>
      have e : mnext (mrun n) M a h (mact i pc ls st a h) = some r := by simp only [hc] at e; exact e
      cases ha : mact i pc ls st a h with
      | none => rw [ha] at e; cases e
      | some z =>
        rw [ha] at e
        match z, ha, e with
        | .inl (pc2, ls2, st2, a2, h2), ha, e =>
          have h1 := mact_cnt ha
          have h2 := mrun_cnt n M pc2 ls2 st2 a2 h2 r e
          omega
        | .inr (.inl r'), ha, e =>
          cases e
          rw [ret_cnt ha]
          exact ⟨Nat.le_refl _, Nat.le_refl _, Nat.le_refl _⟩
        | .inr (.inr (M', as, pc', ls1, st1)), ha, e =>
          have e : mcont (mrun n M) pc' ls1 st1 (mcal (mrun n) M' as a h) = some r := e
          cases hcl : mcal (mrun n) M' as a h with
          | none => rw [hcl] at e; cases e
          | some rc =>
            obtain ⟨vc, ac, hc'⟩ := rc
            rw [hcl] at e
            have h1 := mrun_cnt n M' 0 _ _ a h _ (mcal_some hcl).2
            have h2 := mrun_cnt n M pc' ls1 _ ac hc' r e
            dsimp only at h1
            omega
theorem mnfo_lt {M : Nat} {f : MInfo} (h : mnfo M = some f) : M < 237 := by
  rcases Nat.lt_or_ge M 237 with q | q
  · exact q
  · exfalso
    unfold mnfo at h
    rcases Nat.lt_or_ge (M / 16) 15 with q2 | q2
    · have e1 : M / 16 = 14 := by omega
      rw [e1] at h
      have e2 : M % 16 = 13 ∨ M % 16 = 14 ∨ M % 16 = 15 := by omega
      rcases e2 with e2 | e2 | e2 <;> rw [e2] at h <;> cases h
    · rw [List.getElem?_eq_none (show mnfs.length ≤ M / 16 from q2)] at h
      cases h
set_option maxRecDepth 100000 in
theorem rank_all : (List.range 237).all (fun M => match mnfo M with | some f => decide (f.2.2.2.2.1 ≤ 11) | none => false) = true := by decide +kernel
theorem rank_le {M : Nat} {f : MInfo} (hf : mnfo M = some f) : f.2.2.2.2.1 ≤ 11 := by
  have h := List.all_eq_true.mp rank_all M (List.mem_range.mpr (mnfo_lt hf))
  rw [hf] at h
  exact of_decide_eq_true h
theorem mok_of {M : Nat} {f : MInfo} (hM : M < 237) (hmm : isMM M = false) (hf : mnfo M = some f) : mown f.1 = f.2.1.cls ∧ mml M ≤ 18 ∧ plainName f.2.1.cls = true := by
  have h1 := chk_of M hM hmm
  unfold chkM at h1
  unfold mml
  cases hr : mrow M with
  | none => rw [hf, hr] at h1; cases h1
  | some r =>
    rw [hf, hr] at h1
    dsimp only at h1 ⊢
    rw [Bool.and_eq_true] at h1
    have h2 := h1.1
    unfold mok0 at h2
    simp only [Bool.and_eq_true, decide_eq_true_eq] at h2
    exact ⟨h2.1.1, h2.1.2, h2.2⟩
theorem lp_none {g : Value → Value} : ∀ (k i : Nat), lp g (List.replicate k none) i = []
  | 0, _ => rfl
  | k + 1, i => lp_none k (i + 1)
theorem lp_mini {g : Value → Value} (hg : ∀ v, (g v).category = v.category) (k : Nat) : ∀ (as : List Value) (i : Nat), lp g (mlay as ++ List.replicate k none) i = lv_args i (as.map g)
  | [], i => lp_none k i
  | v :: vs, i => by
    unfold mlay
    by_cases h2 : v.category = 2
    · rw [if_pos h2]
      show (i, g v) :: lp g (mlay vs ++ List.replicate k none) (i + 1 + 1) = (i, g v) :: lv_args (if (g v).category = 2 then i + 2 else i + 1) (vs.map g)
      rw [lp_mini hg k vs, hg, if_pos h2]
    · rw [if_neg h2]
      show (i, g v) :: lp g (mlay vs ++ List.replicate k none) (i + 1) = (i, g v) :: lv_args (if (g v).category = 2 then i + 2 else i + 1) (vs.map g)
      rw [lp_mini hg k vs, hg, if_neg h2]
theorem mlay_len {g : Value → Value} (hg : ∀ v, (g v).category = v.category) : ∀ as : List Value, (lg_sl (as.map g)).length = (mlay as).length
  | [] => rfl
  | v :: vs => by
    have ih := mlay_len hg vs
    unfold lg_sl at ih ⊢
    rw [List.map_cons, List.flatMap_cons, List.length_append, ih, hg]
    show _ = (if v.category = 2 then some v :: none :: mlay vs else some v :: mlay vs).length
    by_cases h2 : v.category = 2
    · rw [if_pos h2, if_pos h2]; simp only [List.length_cons, List.length_nil]; omega
    · rw [if_neg h2, if_neg h2]; simp only [List.length_cons, List.length_nil]; omega
theorem mlay_in {n : Nat} : ∀ {as : List Value} {v : Value}, some v ∈ mlay as → v ∈ as
  | [], _, h => nomatch h
  | u :: us, v, h => by
    unfold mlay at h
    split at h
    · rcases List.mem_cons.mp h with e | h
      · cases e; exact List.mem_cons_self
      · rcases List.mem_cons.mp h with e | h
        · cases e
        · exact List.mem_cons_of_mem _ (mlay_in (n := n) h)
    · rcases List.mem_cons.mp h with e | h
      · cases e; exact List.mem_cons_self
      · exact List.mem_cons_of_mem _ (mlay_in (n := n) h)
theorem lin_mini {n k : Nat} {as : List Value} (h : sin n as) : lin n (mini k as) := by
  intro v hv
  unfold mini at hv
  rcases List.mem_append.mp hv with hv | hv
  · exact h v (mlay_in (n := n) hv)
  · exact nomatch (List.eq_of_mem_replicate hv)
