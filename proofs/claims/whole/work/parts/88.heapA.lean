theorem fit_of {sv : Value} {ad : Nat → Nat} {ty : FieldType} {v : Value} (hm : mok (fsort ty) v = true) : narrow ty (tv sv ad v) = tv sv ad v ∧ fits ty (tv sv ad v) = true := by
  cases ty <;> cases v <;> simp [mok, fsort, tv, narrow, fits] at hm ⊢
  rcases hm with rfl | rfl <;> decide
set_option maxHeartbeats 1000000 in
theorem sd_ldc_w {p : Program} {l : Launch} {e : Env} {R : Room} {s : State} {m : MethodId} {args : Array Value} {below : List Frame} {meth : Method} {c : Code} {H : Heap} {locs : List Loc} {Q : State → Prop} {A : Nat → Prop} {xs : List Int32} {sv : Value} {ao ad : Nat → Nat} {Z : ClassId × ClassId × ClassId} {D : va_G} {f : MInfo} {nL pc pc2 c0 s0 : Nat} {ls ls2 : ML} {st st2 : List Value} {a a2 : MA} {h h2 : MH} {ls' : Array Slot} {len x y : Nat} {cc : Int} {k : Nat} (C : Cx p R s m args meth c A xs sv ao Z D f nL) (hdec : decode f.2.2.1 pc = .ok (.ldc_w k, len)) (hl : len = 3) (hlk : LKb f (.ldc_w k, len, x, y, cc) = true) (ha : mact (.ldc_w k, len, x, y, cc) pc ls st a h = some (.inl (pc2, ls2, st2, a2, h2))) (hR : Rp s A xs sv ao Z D nL ad a.1 h H locs ls' ls st) (hc : a2.2.1 - c0 ≤ R.cells) (hs : a2.2.2 - s0 ≤ R.slots) (hc0 : c0 ≤ a.2.1) (hs0 : s0 ≤ a.2.2) (kk : ∀ (ad' : Nat → Nat) (H' : Heap) (locs' : List Loc) (ls'' : Array Slot), Rp s A xs sv ao Z D nL ad' a2.1 h2 H' locs' ls'' ls2 st2 → (∀ k, k < a.1 → ad' k = ad k) → W p l e R s m args below meth c H' locs' (a2.2.1 - c0) (a2.2.2 - s0) Q (F0 m pc2 ls'' (st2.map (tv sv ad')))) : W p l e R s m args below meth c H locs (a.2.1 - c0) (a.2.2 - s0) Q (F0 m pc ls' (st.map (tv sv ad))) := by
  subst hl
  obtain ⟨hx, hb, hml, hown, hts, hK, hA, hO, hin0, hfr, hlo, hsv⟩ := C
  obtain ⟨hP, hD, hS, hI, hL, hT, hlr, hao, hnl⟩ := hR
  cases ha
  simp only [LKb, Bool.and_eq_true, decide_eq_true_eq, beq_iff_eq] at hlk
  exact lv_ldcw hx hb hown (wt_link hts hlk) hdec (kk ad H locs ls' ⟨hP, hD, hS, hI, hL, (sin_c trivial hT), hlr, hao, hnl⟩ (fun _ _ => rfl))
set_option maxHeartbeats 1000000 in
theorem sd_ldc2_w {p : Program} {l : Launch} {e : Env} {R : Room} {s : State} {m : MethodId} {args : Array Value} {below : List Frame} {meth : Method} {c : Code} {H : Heap} {locs : List Loc} {Q : State → Prop} {A : Nat → Prop} {xs : List Int32} {sv : Value} {ao ad : Nat → Nat} {Z : ClassId × ClassId × ClassId} {D : va_G} {f : MInfo} {nL pc pc2 c0 s0 : Nat} {ls ls2 : ML} {st st2 : List Value} {a a2 : MA} {h h2 : MH} {ls' : Array Slot} {len x y : Nat} {cc : Int} {k : Nat} (C : Cx p R s m args meth c A xs sv ao Z D f nL) (hdec : decode f.2.2.1 pc = .ok (.ldc2_w k, len)) (hl : len = 3) (hlk : LKb f (.ldc2_w k, len, x, y, cc) = true) (ha : mact (.ldc2_w k, len, x, y, cc) pc ls st a h = some (.inl (pc2, ls2, st2, a2, h2))) (hR : Rp s A xs sv ao Z D nL ad a.1 h H locs ls' ls st) (hc : a2.2.1 - c0 ≤ R.cells) (hs : a2.2.2 - s0 ≤ R.slots) (hc0 : c0 ≤ a.2.1) (hs0 : s0 ≤ a.2.2) (kk : ∀ (ad' : Nat → Nat) (H' : Heap) (locs' : List Loc) (ls'' : Array Slot), Rp s A xs sv ao Z D nL ad' a2.1 h2 H' locs' ls'' ls2 st2 → (∀ k, k < a.1 → ad' k = ad k) → W p l e R s m args below meth c H' locs' (a2.2.1 - c0) (a2.2.2 - s0) Q (F0 m pc2 ls'' (st2.map (tv sv ad')))) : W p l e R s m args below meth c H locs (a.2.1 - c0) (a.2.2 - s0) Q (F0 m pc ls' (st.map (tv sv ad))) := by
  subst hl
  obtain ⟨hx, hb, hml, hown, hts, hK, hA, hO, hin0, hfr, hlo, hsv⟩ := C
  obtain ⟨hP, hD, hS, hI, hL, hT, hlr, hao, hnl⟩ := hR
  cases ha
  simp only [LKb, Bool.and_eq_true, decide_eq_true_eq, beq_iff_eq] at hlk
  exact lv_ldc2 hx hb hown (wt_link hts hlk) hdec (kk ad H locs ls' ⟨hP, hD, hS, hI, hL, (sin_c trivial hT), hlr, hao, hnl⟩ (fun _ _ => rfl))
set_option maxHeartbeats 1000000 in
theorem sd_ldc {p : Program} {l : Launch} {e : Env} {R : Room} {s : State} {m : MethodId} {args : Array Value} {below : List Frame} {meth : Method} {c : Code} {H : Heap} {locs : List Loc} {Q : State → Prop} {A : Nat → Prop} {xs : List Int32} {sv : Value} {ao ad : Nat → Nat} {Z : ClassId × ClassId × ClassId} {D : va_G} {f : MInfo} {nL pc pc2 c0 s0 : Nat} {ls ls2 : ML} {st st2 : List Value} {a a2 : MA} {h h2 : MH} {ls' : Array Slot} {len x y : Nat} {cc : Int} {k : Nat} (C : Cx p R s m args meth c A xs sv ao Z D f nL) (hdec : decode f.2.2.1 pc = .ok (.ldc k, len)) (hl : len = 2) (hlk : LKb f (.ldc k, len, x, y, cc) = true) (ha : mact (.ldc k, len, x, y, cc) pc ls st a h = some (.inl (pc2, ls2, st2, a2, h2))) (hR : Rp s A xs sv ao Z D nL ad a.1 h H locs ls' ls st) (hc : a2.2.1 - c0 ≤ R.cells) (hs : a2.2.2 - s0 ≤ R.slots) (hc0 : c0 ≤ a.2.1) (hs0 : s0 ≤ a.2.2) (kk : ∀ (ad' : Nat → Nat) (H' : Heap) (locs' : List Loc) (ls'' : Array Slot), Rp s A xs sv ao Z D nL ad' a2.1 h2 H' locs' ls'' ls2 st2 → (∀ k, k < a.1 → ad' k = ad k) → W p l e R s m args below meth c H' locs' (a2.2.1 - c0) (a2.2.2 - s0) Q (F0 m pc2 ls'' (st2.map (tv sv ad')))) : W p l e R s m args below meth c H locs (a.2.1 - c0) (a.2.2 - s0) Q (F0 m pc ls' (st.map (tv sv ad))) := by
  subst hl
  obtain ⟨hx, hb, hml, hown, hts, hK, hA, hO, hin0, hfr, hlo, hsv⟩ := C
  obtain ⟨hP, hD, hS, hI, hL, hT, hlr, hao, hnl⟩ := hR
  have ha := (show (if x = 0 then nx (pc + 2) ls (.int (Int32.ofInt cc) :: st) a h else nx (pc + 2) ls (.ref (1000 + y) :: st) a h) = some _ from ha)
  by_cases q : x = 0
  · rw [if_pos q] at ha
    cases ha
    have hlk : decide (wfind (wls f.1) k = some (.constant (mown f.1) k (Int32.ofInt cc))) = true := by have z := hlk; simp only [LKb, if_pos q] at z; exact z
    exact lv_ldc hx hb hown (wt_link hts (of_decide_eq_true hlk)) hdec (kk ad H locs ls' ⟨hP, hD, hS, hI, hL, (sin_c trivial hT), hlr, hao, hnl⟩ (fun _ _ => rfl))
  · rw [if_neg q] at ha
    cases ha
    have hlk : (f.1 == 2 && decide (y < 13) && sidx y == k) = true := by have z := hlk; simp only [LKb, if_neg q] at z; exact z
    simp only [Bool.and_eq_true, decide_eq_true_eq, beq_iff_eq] at hlk
    obtain ⟨⟨h1, h2⟩, h3⟩ := hlk
    subst h3
    have hown : s.vm.findClass "SoakTub$TextReader" = some m.cls := by rw [← hown, h1]; rfl
    have K := kk ad H locs ls' ⟨hP, hD, hS, hI, hL, sin_c (Or.inr (Nat.le_add_right 1000 y)) hT, hlr, hao, hnl⟩ (fun _ _ => rfl)
    have e : tv sv ad (.ref (1000 + y)) = .ref (ao (1000 + y)) := congrArg Value.ref (hao _ (Nat.le_add_right 1000 y))
    rw [List.map_cons, e] at K
    exact va_ldcS hx hb hown (hO.2.1 y h2) hdec K
set_option maxHeartbeats 1000000 in
theorem sd_getstatic {p : Program} {l : Launch} {e : Env} {R : Room} {s : State} {m : MethodId} {args : Array Value} {below : List Frame} {meth : Method} {c : Code} {H : Heap} {locs : List Loc} {Q : State → Prop} {A : Nat → Prop} {xs : List Int32} {sv : Value} {ao ad : Nat → Nat} {Z : ClassId × ClassId × ClassId} {D : va_G} {f : MInfo} {nL pc pc2 c0 s0 : Nat} {ls ls2 : ML} {st st2 : List Value} {a a2 : MA} {h h2 : MH} {ls' : Array Slot} {len x y : Nat} {cc : Int} {k : Nat} (C : Cx p R s m args meth c A xs sv ao Z D f nL) (hdec : decode f.2.2.1 pc = .ok (.getstatic k, len)) (hl : len = 3) (hlk : LKb f (.getstatic k, len, x, y, cc) = true) (ha : mact (.getstatic k, len, x, y, cc) pc ls st a h = some (.inl (pc2, ls2, st2, a2, h2))) (hR : Rp s A xs sv ao Z D nL ad a.1 h H locs ls' ls st) (hc : a2.2.1 - c0 ≤ R.cells) (hs : a2.2.2 - s0 ≤ R.slots) (hc0 : c0 ≤ a.2.1) (hs0 : s0 ≤ a.2.2) (kk : ∀ (ad' : Nat → Nat) (H' : Heap) (locs' : List Loc) (ls'' : Array Slot), Rp s A xs sv ao Z D nL ad' a2.1 h2 H' locs' ls'' ls2 st2 → (∀ k, k < a.1 → ad' k = ad k) → W p l e R s m args below meth c H' locs' (a2.2.1 - c0) (a2.2.2 - s0) Q (F0 m pc2 ls'' (st2.map (tv sv ad')))) : W p l e R s m args below meth c H locs (a.2.1 - c0) (a.2.2 - s0) Q (F0 m pc ls' (st.map (tv sv ad))) := by
  subst hl
  obtain ⟨hx, hb, hml, hown, hts, hK, hA, hO, hin0, hfr, hlo, hsv⟩ := C
  obtain ⟨hP, hD, hS, hI, hL, hT, hlr, hao, hnl⟩ := hR
  have ha := (show (match x with | 0 => nx (pc + 3) ls (.ref 1300 :: st) a h | 1 => nx (pc + 3) ls (.int 1 :: st) a h | 2 => nx (pc + 3) ls (.retAddr 0 :: st) a h | _ => none) = some _ from ha)
  simp only [LKb, Bool.and_eq_true, decide_eq_true_eq, beq_iff_eq] at hlk
  obtain ⟨h1, h2⟩ := hlk
  match x, h1, h2, ha with
  | 0, _, h2, ha =>
    cases ha
    have K := kk ad H locs ls' ⟨hP, hD, hS, hI, hL, sin_c (Or.inr (by decide)) hT, hlr, hao, hnl⟩ (fun _ _ => rfl)
    have e : tv sv ad (.ref 1300) = .ref (ao 1300) := congrArg Value.ref (hao _ (by decide))
    rw [List.map_cons, e] at K
    exact va_gets hx hb hO.2.2.2.2.1 hS hown (wt_link hts h2) (fun _ z => z) hdec K
  | 1, _, h2, ha =>
    cases ha
    exact va_gets hx hb hO.2.2.1 hS hown (wt_link hts h2) (fun _ z => z) hdec (kk ad H locs ls' ⟨hP, hD, hS, hI, hL, (sin_c trivial hT), hlr, hao, hnl⟩ (fun _ _ => rfl))
  | 2, _, h2, ha =>
    cases ha
    exact va_gets hx hb hO.2.2.2.1 hS hown (wt_link hts h2) (fun _ z => z) hdec (kk ad H locs ls' ⟨hP, hD, hS, hI, hL, (sin_c trivial hT), hlr, hao, hnl⟩ (fun _ _ => rfl))
  | x + 3, h1, _, _ => exact absurd h1 (by omega)
set_option maxHeartbeats 1000000 in
theorem sd_getfield {p : Program} {l : Launch} {e : Env} {R : Room} {s : State} {m : MethodId} {args : Array Value} {below : List Frame} {meth : Method} {c : Code} {H : Heap} {locs : List Loc} {Q : State → Prop} {A : Nat → Prop} {xs : List Int32} {sv : Value} {ao ad : Nat → Nat} {Z : ClassId × ClassId × ClassId} {D : va_G} {f : MInfo} {nL pc pc2 c0 s0 : Nat} {ls ls2 : ML} {st st2 : List Value} {a a2 : MA} {h h2 : MH} {ls' : Array Slot} {len x y : Nat} {cc : Int} {k : Nat} (C : Cx p R s m args meth c A xs sv ao Z D f nL) (hdec : decode f.2.2.1 pc = .ok (.getfield k, len)) (hl : len = 3) (hlk : LKb f (.getfield k, len, x, y, cc) = true) (ha : mact (.getfield k, len, x, y, cc) pc ls st a h = some (.inl (pc2, ls2, st2, a2, h2))) (hR : Rp s A xs sv ao Z D nL ad a.1 h H locs ls' ls st) (hc : a2.2.1 - c0 ≤ R.cells) (hs : a2.2.2 - s0 ≤ R.slots) (hc0 : c0 ≤ a.2.1) (hs0 : s0 ≤ a.2.2) (kk : ∀ (ad' : Nat → Nat) (H' : Heap) (locs' : List Loc) (ls'' : Array Slot), Rp s A xs sv ao Z D nL ad' a2.1 h2 H' locs' ls'' ls2 st2 → (∀ k, k < a.1 → ad' k = ad k) → W p l e R s m args below meth c H' locs' (a2.2.1 - c0) (a2.2.2 - s0) Q (F0 m pc2 ls'' (st2.map (tv sv ad')))) : W p l e R s m args below meth c H locs (a.2.1 - c0) (a.2.2 - s0) Q (F0 m pc ls' (st.map (tv sv ad))) := by
  subst hl
  obtain ⟨hx, hb, hml, hown, hts, hK, hA, hO, hin0, hfr, hlo, hsv⟩ := C
  obtain ⟨hP, hD, hS, hI, hL, hT, hlr, hao, hnl⟩ := hR
  obtain ⟨q, r, rfl, ha⟩ := m_r ha
  have ha := (show (match mgf h q x y with | some v => nx (pc + 3) ls (v :: r) a h | none => none) = some _ from ha)
  obtain ⟨v, hg, ha⟩ := m_oV (o := mgf h q x y) (F := fun v => nx (pc + 3) ls (v :: r) a h) ha
  cases ha
  obtain ⟨fs, hq, hv⟩ := mgf_some hg
  by_cases hx7 : x < 7
  · have hlk : (decide (y < (clsT x).2.2) && decide (wfind (wls f.1) k = some (.fieldLink (mown f.1) k ((clsT x).1 y).1 ((clsT x).1 y).2.1 ((clsT x).1 y).2.2.1))) = true := by have z := hlk; simp only [LKb, if_pos hx7] at z; exact z
    simp only [Bool.and_eq_true, decide_eq_true_eq] at hlk
    obtain ⟨hyN, hlink⟩ := hlk
    obtain ⟨hqn, hclo⟩ := obj_in hI hq hx7
    refine va_get (D := D) (ci := x) (v := tv sv ad v) (C := mown x) (T := (clsT x).1) (N := (clsT x).2.2) (fs := fs.map (tv sv ad)) hx hb hts (uws_in x hx7) hown hK hP q ?_ (vwCl_at x hx7) y hyN (wt_link hts hlink) (fun _ z => z) ?_ hdec ?_
    · rw [wsl_get hqn, hq]; rfl
    · rw [List.getElem?_map, hv]; rfl
    · exact kk ad H locs ls' ⟨hP, hD, hS, hI, hL, sin_c (hclo v (List.mem_of_getElem? hv)) (sin_tl hT), hlr, hao, hnl⟩ (fun _ _ => rfl)
  · have hlk : (x == 7 && decide (y < 2) && decide (wfind (wls f.1) k = some (.fieldLink (mown f.1) k "java/lang/String" (strF y).1 (strF y).2))) = true := by have z := hlk; simp only [LKb, if_neg hx7] at z; exact z
    simp only [Bool.and_eq_true, decide_eq_true_eq, beq_iff_eq] at hlk
    obtain ⟨⟨rfl, hy2⟩, hlink⟩ := hlk
    have hqo : 1000 ≤ q ∧ h q = outc xs q := by
      rcases hin_lt hI (q := q) with ⟨_, h2⟩ | h1 | h1
      · rw [hq] at h2; exact absurd h2.1 hx7
      · rw [hq] at h1; cases h1
      · exact h1
    have hoc : ∃ i, i < 13 ∧ q = 1000 + i ∧ fs = [.int 0, .ref (1100 + i)] := by
      rcases outc_obj (hqo.2.symm.trans hq) with ⟨e, _⟩ | ⟨e, _⟩ | ⟨_, e⟩ | ⟨e, _⟩
      · omega
      · omega
      · exact e
      · omega
    obtain ⟨i, hi, rfl, rfl⟩ := hoc
    obtain ⟨-, hco, hva, -⟩ := hO.1.1 i hi
    have eq1 : tv sv ad (.ref (1000 + i)) = .ref (ao (1000 + i)) := congrArg Value.ref (hao _ (Nat.le_add_right 1000 i))
    rw [List.map_cons, eq1]
    match y, hy2, hv, hlink with
    | 0, _, hv, hlink =>
      cases hv
      exact vk_getf hx hb hco hS hown (wt_link hts hlink) (fun _ z => z) hdec (kk ad H locs ls' ⟨hP, hD, hS, hI, hL, (sin_c trivial (sin_tl hT)), hlr, hao, hnl⟩ (fun _ _ => rfl))
    | 1, _, hv, hlink =>
      cases hv
      have K := kk ad H locs ls' ⟨hP, hD, hS, hI, hL, sin_c (Or.inr (Nat.le_trans (Nat.le_of_ble_eq_true rfl : 1000 ≤ 1100) (Nat.le_add_right 1100 i))) (sin_tl hT), hlr, hao, hnl⟩ (fun _ _ => rfl)
      have e : tv sv ad (.ref (1100 + i)) = .ref (ao (1100 + i)) := congrArg Value.ref (hao _ (Nat.le_trans (Nat.le_of_ble_eq_true rfl : 1000 ≤ 1100) (Nat.le_add_right 1100 i)))
      rw [List.map_cons, e] at K
      exact vk_getf hx hb hva hS hown (wt_link hts hlink) (fun _ z => z) hdec K
    | y + 2, hy2, _, _ => exact absurd hy2 (by omega)
set_option maxHeartbeats 1000000 in
theorem sd_putfield {p : Program} {l : Launch} {e : Env} {R : Room} {s : State} {m : MethodId} {args : Array Value} {below : List Frame} {meth : Method} {c : Code} {H : Heap} {locs : List Loc} {Q : State → Prop} {A : Nat → Prop} {xs : List Int32} {sv : Value} {ao ad : Nat → Nat} {Z : ClassId × ClassId × ClassId} {D : va_G} {f : MInfo} {nL pc pc2 c0 s0 : Nat} {ls ls2 : ML} {st st2 : List Value} {a a2 : MA} {h h2 : MH} {ls' : Array Slot} {len x y : Nat} {cc : Int} {k : Nat} (C : Cx p R s m args meth c A xs sv ao Z D f nL) (hdec : decode f.2.2.1 pc = .ok (.putfield k, len)) (hl : len = 3) (hlk : LKb f (.putfield k, len, x, y, cc) = true) (ha : mact (.putfield k, len, x, y, cc) pc ls st a h = some (.inl (pc2, ls2, st2, a2, h2))) (hR : Rp s A xs sv ao Z D nL ad a.1 h H locs ls' ls st) (hc : a2.2.1 - c0 ≤ R.cells) (hs : a2.2.2 - s0 ≤ R.slots) (hc0 : c0 ≤ a.2.1) (hs0 : s0 ≤ a.2.2) (kk : ∀ (ad' : Nat → Nat) (H' : Heap) (locs' : List Loc) (ls'' : Array Slot), Rp s A xs sv ao Z D nL ad' a2.1 h2 H' locs' ls'' ls2 st2 → (∀ k, k < a.1 → ad' k = ad k) → W p l e R s m args below meth c H' locs' (a2.2.1 - c0) (a2.2.2 - s0) Q (F0 m pc2 ls'' (st2.map (tv sv ad')))) : W p l e R s m args below meth c H locs (a.2.1 - c0) (a.2.2 - s0) Q (F0 m pc ls' (st.map (tv sv ad))) := by
  subst hl
  obtain ⟨hx, hb, hml, hown, hts, hK, hA, hO, hin0, hfr, hlo, hsv⟩ := C
  obtain ⟨hP, hD, hS, hI, hL, hT, hlr, hao, hnl⟩ := hR
  obtain ⟨v, q, r, rfl, ha⟩ := m_vr ha
  have ha := (show (if mok cc.toNat v = true then (match mpf h q x y v with | some h' => nx (pc + 3) ls r a h' | none => none) else none) = some _ from ha)
  obtain ⟨hm, ha⟩ := m_if ha
  obtain ⟨h3, hg, ha⟩ := m_oH (o := mpf h q x y v) (F := fun h' => nx (pc + 3) ls r a h') ha
  cases ha
  obtain ⟨fs, hq, hx7, hyl, rfl⟩ := mpf_some hg
  simp only [LKb, Bool.and_eq_true, decide_eq_true_eq, beq_iff_eq, Bool.or_eq_true, Bool.not_eq_true'] at hlk
  obtain ⟨⟨⟨⟨_, hyN⟩, hlink⟩, hso⟩, hfin⟩ := hlk
  obtain ⟨hqn, hclo⟩ := obj_in hI hq hx7
  have hd := ty_ok x hx7 y hyN
  have hnar : narrow ((clsT x).2.1 y) (tv sv ad v) = tv sv ad v ∧ fits ((clsT x).2.1 y) (tv sv ad v) = true := by
    rw [hso] at hm
    exact fit_of hm
  have hws : (wsl Z sv ad a.1 h)[q]? = some (ad q, .inr (x, fs.map (tv sv ad))) := by rw [wsl_get hqn, hq]; rfl
  have hset : (wsl Z sv ad a.1 h).set q (ad q, .inr (x, (fs.map (tv sv ad)).set y (tv sv ad v))) = wsl Z sv ad a.1 (mup h q (.inr (.inr (x, fs.set y v)))) := by
    rw [← wsl_set hqn, ← List.map_set]; rfl
  have hI2 : hin xs a.1 (mup h q (.inr (.inr (x, fs.set y v)))) := hin_up hI hqn ⟨hx7, fun u hu => (List.mem_or_eq_of_mem_set hu).elim (hclo u) (fun e => e ▸ sin_hd hT)⟩
  by_cases hf1 : ((clsT x).1 y).2.2.2 = false
  · refine va_put (D := D) (ci := x) (v := tv sv ad v) (ty := (clsT x).2.1 y) (C := mown x) (T := (clsT x).1) (N := (clsT x).2.2) hx hb hts (uws_in x hx7) (clsT x).2.1 (ty_ok x hx7) (nm_ok x hx7) hown hK hP hD hS q hws (vwCl_at x hx7) y hyN (wt_link hts hlink) (fun _ z => z) hf1 hd hnar.1 hnar.2 (by rw [List.length_map]; exact hyl) hdec (fun H1 locs1 hP1 hD1 hS1 => ?_)
    rw [hset] at hP1 hD1
    exact kk ad H1 locs1 ls' ⟨hP1, hD1, hS1, hI2, hL, sin_tl (sin_tl hT), hlr, hao, hnl⟩ (fun _ _ => rfl)
  · obtain ⟨hi2, hdecl⟩ := hfin.resolve_left hf1
    refine va_putF (D := D) (ci := x) (v := tv sv ad v) (ty := (clsT x).2.1 y) (C := mown x) (T := (clsT x).1) (N := (clsT x).2.2) hx hb hts (uws_in x hx7) (clsT x).2.1 (ty_ok x hx7) (nm_ok x hx7) hown hK hP hD hS q hws (vwCl_at x hx7) y hyN (wt_link hts hlink) (fun _ z => z) (by simpa using hf1) (hin0 hi2) hdecl hd hnar.1 hnar.2 (by rw [List.length_map]; exact hyl) hdec (fun H1 locs1 hP1 hD1 hS1 => ?_)
    rw [hset] at hP1 hD1
    exact kk ad H1 locs1 ls' ⟨hP1, hD1, hS1, hI2, hL, sin_tl (sin_tl hT), hlr, hao, hnl⟩ (fun _ _ => rfl)
