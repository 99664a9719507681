/-! ===== a method's contract, out of soundness at less fuel; and soundness ===== -/
theorem map_toList {g : Value → Value} (v : Option Value) (st : List Value) : (v.toList ++ st).map g = (v.map g).toList ++ st.map g := by cases v <;> rfl
set_option maxHeartbeats 4000000 in
theorem met_of {l : Launch} {n : Nat} (ih : SndAt l n) {M : Nat} {f : MInfo} (hM : M < 236) (hmm : isMM M = false) (hf : mnfo M = some f) {as : List Value} {a : MA} {h : MH} {r : MR} (hfit : (mlay as).length ≤ mml M) (hrun : mrun n M (0, mini (mml M) as, [], a, h) = some r)
    {Z : ClassId × ClassId × ClassId} {sv : Value} {ao ad : Nat → Nat} {xs : List Int32} {D : va_G} (hsv : sv.category = 1) (hI : hin xs a.1 h) (hT : sin a.1 as) (hao : ∀ k, 1000 ≤ k → ad k = ao k) (sz : Nat) :
    Met l f.2.1 (wsM f (mml M)) { frames := f.2.2.2.2.1, cells := r.2.1.2.1 - a.2.1, slots := r.2.1.2.2 - a.2.2, locals := 37 * f.2.2.2.2.1 } (va_Pc (as.map (tv sv ad)) (PcG Z sv ao xs D ad a.1 h sz)) (QcG Z sv ao xs D ad a.1 r (va_A (wsl Z sv ad a.1 h) sz)) (r.2.1.2.1 - a.2.1) (r.2.1.2.2 - a.2.2) (va_A (wsl Z sv ad a.1 h) sz) := by
  obtain ⟨hown0, hml0, hpl⟩ := mok_of (by omega) hmm hf
  refine Met.ofW (cc := f.2.2.1) (maxL := mml M) (ret := f.2.2.2.1) hpl rfl ?_
  intro p e s m args below meth c s₁ B hml hv
  obtain ⟨rfl, hsz, hP, hK, hD0, hO⟩ := hv
  have hx := B.exec
  have hb := B.bytes
  have hr := B.returns
  have hts := atoms_spec (ws := wsM f (mml M)) B.pre
  have hown : s.vm.findClass (mown f.1) = some m.cls := by rw [hown0]; exact findClass_of_methodNamed B.named
  have hlocks := B.notSynchronized
  have hnm : meth.name = f.2.1.name := (name_of_methodNamed B.named B.method).1
  subst hsz
  have hD := hD0.self (sz := s.heap.size)
  generalize hAe : va_A (wsl Z sv ad a.1 h) s.heap.size = A at hD hO ⊢
  have hA : ∀ q : Nat, s.heap.size ≤ q → A q := fun q h => by rw [← hAe]; exact Or.inr h
  have hS : va_S A s.heap s.heap [] := va_S.rf
  have hl := lv_entry (as.map (tv sv ad)) (n := mml M) (by rw [mlay_len (tv_catf hsv)]; exact hfit)
  rw [lg_entry_eq]
  generalize (lg_sl (as.map (tv sv ad)) ++ List.replicate (mml M - (lg_sl (as.map (tv sv ad))).length) Slot.unset).toArray = ls' at hl ⊢
  have hnl : (mini (mml M) as).length = mml M := by unfold mini; rw [List.length_append, List.length_replicate]; omega
  have hlr : lrep (tv sv ad) ls' (mini (mml M) as) := by
    unfold lrep
    rw [hnl]
    unfold mini
    rw [lp_mini (tv_catf hsv)]
    exact hl
  have hk := kind_ok (by omega) hf
  have C : Cx p (headSpec (wsM f (mml M)) { frames := f.2.2.2.2.1, cells := r.2.1.2.1 - a.2.1, slots := r.2.1.2.2 - a.2.2, locals := 37 * f.2.2.2.2.1 }).room s m (as.map (tv sv ad)).toArray meth c A xs sv ao Z D f (mml M) :=
    ⟨hx, hb, hml, hown, fun w hw => hts w (List.mem_cons_of_mem _ hw), hK, hA, hO, fun q => hnm.trans (hk.1 q), Nat.le_refl _, Nat.le_refl _, hsv⟩
  have K := ih M 0 (mini (mml M) as) [] a h r hrun (by omega) hmm f hf p e _ s m (as.map (tv sv ad)).toArray below meth c s.heap [] (MQ below (QcG Z sv ao xs D ad a.1 r A) (as.map (tv sv ad)).toArray s (r.2.1.2.1 - a.2.1) (r.2.1.2.2 - a.2.2) A) A xs sv ao ad Z D a.2.1 a.2.2 ls' C
    ⟨hP, hD, hS, hI, lin_mini hT, (fun _ z => nomatch z), hlr, hao, hnl⟩ (Nat.le_refl _) (Nat.le_refl _) (Nat.le_refl _) (Nat.le_refl _) ?_
  · rw [Nat.sub_self, Nat.sub_self] at K
    exact K
  · intro pc' ad' H' locs' ls'' hag hao' hP' hD' hS' hI' hcl hret
    have hq : ∀ t : State, t.heap = H' → QcG Z sv ao xs D ad a.1 r A (as.map (tv sv ad)).toArray s (.returned (r.1.map (tv sv ad'))) t := fun t ht => ⟨⟨ad', hag, hao', rfl, by rw [ht]; exact hP', hD', hI', hcl⟩, hS'.F ht⟩
    obtain ⟨v, ra, rh⟩ := r
    dsimp only at hq hret ⊢
    cases v with
    | none => exact W.vret hx hb (hr.trans hret.2) (fun t ht _ => hq t ht) hS'.2.2 hret.1 hlocks
    | some v =>
      cases v with
      | int x =>
        obtain ⟨ty, e1, e2⟩ := nar_of hret.2
        exact W.zret hx hb (hr.trans e1) e2 (fun t ht _ => hq t ht) hS'.2.2 hret.1 hlocks
      | long x => exact W.lret hx hb (hr.trans hret.2) (fun t ht _ => hq t ht) hS'.2.2 hret.1 hlocks
      | ref x =>
        obtain ⟨C', e1⟩ := hret.2
        exact W.aret hx hb (hr.trans e1) (Or.inl ⟨C', rfl⟩) (Or.inr ⟨_, rfl⟩) (fun t ht _ => hq t ht) hS'.2.2 hret.1 hlocks
      | null =>
        obtain ⟨C', e1⟩ := hret.2
        exact W.aret hx hb (hr.trans e1) (Or.inl ⟨C', rfl⟩) (Or.inl rfl) (fun t ht _ => hq t ht) hS'.2.2 hret.1 hlocks
      | float _ => exact hret.elim
      | double _ => exact hret.elim
      | retAddr _ => exact hret.elim
