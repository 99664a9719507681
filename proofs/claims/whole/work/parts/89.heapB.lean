set_option maxRecDepth 100000 in
theorem arr_in : Cond.arrayClass .int ∈ wms := by decide +kernel
theorem mdf_ok : ∀ x, x < 7 → ∀ j, j < (clsT x).2.2 → defaultValue ((clsT x).2.1 j) = vp_V (mdf x) j := by
  intro x hx
  match x, hx with
  | 0, _ => decide +kernel
  | 1, _ => decide +kernel
  | 2, _ => decide +kernel
  | 3, _ => decide +kernel
  | 4, _ => decide +kernel
  | 5, _ => decide +kernel
  | 6, _ => decide +kernel
set_option maxRecDepth 100000 in
theorem inst_in : ∀ x, x < 7 → Cond.instantiable (mown x) (clsT x).2.2 ∈ wms ∧ Cond.initialized (mown x) ∈ wms := by
  intro x hx
  match x, hx with
  | 0, _ => decide +kernel
  | 1, _ => decide +kernel
  | 2, _ => decide +kernel
  | 3, _ => decide +kernel
  | 4, _ => decide +kernel
  | 5, _ => decide +kernel
  | 6, _ => decide +kernel
theorem inst_ok {args : Array Value} {s : State} (hts : ∀ w ∈ wtbl, w.before args s = true) (x : Nat) (hx : x < 7) : (Cond.instantiable (mown x) (clsT x).2.2).before args s = true ∧ (Cond.initialized (mown x)).before args s = true := ⟨hts _ (wms_in _ (inst_in x hx).1), hts _ (wms_in _ (inst_in x hx).2)⟩
set_option maxRecDepth 100000 in
theorem cp_in : (Cond.native arraycopyName ∈ wms ∧ Cond.static arraycopyName ∈ wms) ∧ (Cond.initialized "java/lang/System" ∈ wms ∧ (Cond.instanceMethod Lib.objectInit ∈ wms ∧ Cond.code Lib.objectInit ⟨#[0xb1]⟩ 1 none ∈ wms)) := by decide +kernel
theorem nfw : nativeFrameWords "java/lang/System" "arraycopy" 5 ≤ 18 := by decide +kernel
theorem mld_some {h : MH} {q : Nat} {i v : Int32} {b : Bool} (e : mld h q i b = some v) : ¬ i < 0 ∧ ((b = false ∧ ∃ n f, h q = .inl (n, f) ∧ i.toNatClampNeg < n ∧ v = f i.toNatClampNeg) ∨ ∃ c fs, h q = .inr (.inr (c, fs)) ∧ (((c = 8 ∨ c = 9) ∧ b = false) ∨ (c = 10 ∧ b = true)) ∧ fs[i.toNatClampNeg]? = some (.int v)) := by
  unfold mld at e
  split at e
  · rename_i n f hq
    split at e
    · cases e
    · rename_i h0
      split at e
      · rename_i h1
        split at e
        · cases e
        · rename_i hb; cases e; exact ⟨h0, Or.inl ⟨by simpa using hb, n, f, hq, h1, rfl⟩⟩
      · cases e
  · rename_i c fs hq
    split at e
    · cases e
    · rename_i h0
      split at e
      · rename_i hc
        split at e
        · rename_i x hx; cases e; exact ⟨h0, Or.inr ⟨c, fs, hq, hc, hx⟩⟩
        · cases e
      · cases e
  · cases e
theorem vp_of {i : Int32} {n : Nat} (h0 : ¬ i < 0) (h1 : i.toNatClampNeg < n) : vp_in i n := fun z => z.elim h0 (fun z => by omega)
theorem mias_some {h h2 : MH} {q : Nat} {i v : Int32} (e : mias h q i v = some h2) : ¬ i < 0 ∧ ∃ n f, h q = .inl (n, f) ∧ i.toNatClampNeg < n ∧ h2 = mup h q (.inl (n, mfu f i.toNatClampNeg v)) := by
  unfold mias at e
  split at e
  · rename_i n f hq
    split at e
    · cases e
    · rename_i h0
      split at e
      · rename_i h1; cases e; exact ⟨h0, n, f, hq, h1, rfl⟩
      · cases e
  · cases e
theorem mald_some {h : MH} {q : Nat} {i : Int32} {v : Value} (e : mald h q i = some v) : ¬ i < 0 ∧ ∃ c n f, h q = .inr (.inl (c, n, f)) ∧ c ≠ 99 ∧ i.toNatClampNeg < n ∧ v = mrf (f i.toNatClampNeg) := by
  unfold mald at e
  split at e
  · rename_i c n f hq
    split at e
    · cases e
    · rename_i hc
      split at e
      · cases e
      · rename_i h0
        split at e
        · rename_i h1; cases e; exact ⟨h0, c, n, f, hq, hc, h1, rfl⟩
        · cases e
  · cases e
theorem mis_some {h : MH} {q : Nat} {c : Int} (e : mis h q c = true) : ∃ c' fs, h q = .inr (.inr (c', fs)) ∧ (c' : Int) = c := by
  unfold mis at e
  split at e
  · rename_i c' fs hq; exact ⟨c', fs, hq, by simpa using e⟩
  · cases e
theorem maas_some {h h2 : MH} {q v : Nat} {i : Int32} (e : maas h q i v = some h2) : ¬ i < 0 ∧ ∃ c n f, h q = .inr (.inl (c, n, f)) ∧ c ≠ 99 ∧ i.toNatClampNeg < n ∧ (∃ fs, h v = .inr (.inr (c, fs))) ∧ h2 = mup h q (.inr (.inl (c, n, mfu f i.toNatClampNeg (some v)))) := by
  unfold maas at e
  split at e
  · rename_i c n f hq
    split at e
    · cases e
    · rename_i hc
      split at e
      · cases e
      · rename_i h0
        split at e
        · rename_i h1
          cases e
          obtain ⟨c', fs, hv, hcc⟩ := mis_some h1.2
          have : c' = c := by omega
          subst this
          exact ⟨h0, c', n, f, hq, hc, h1.1, ⟨fs, hv⟩, rfl⟩
        · cases e
  · cases e
theorem mlen_some {h : MH} {q : Nat} {v : Int32} (e : mlen h q = some v) : (∃ n f, h q = .inl (n, f) ∧ Int32.ofNat n = v) ∨ (∃ c n f, h q = .inr (.inl (c, n, f)) ∧ c ≠ 99 ∧ Int32.ofNat n = v) ∨ ∃ c fs, h q = .inr (.inr (c, fs)) ∧ (c = 8 ∨ c = 9 ∨ c = 10) ∧ Int32.ofNat fs.length = v := by
  unfold mlen at e
  split at e
  · rename_i n f hq; cases e; exact Or.inl ⟨n, f, hq, rfl⟩
  · rename_i c n f hq
    split at e
    · cases e
    · rename_i hc; cases e; exact Or.inr (Or.inl ⟨c, n, f, hq, hc, rfl⟩)
  · rename_i c fs hq
    split at e
    · rename_i hc; cases e; exact Or.inr (Or.inr ⟨c, fs, hq, hc, rfl⟩)
    · cases e
theorem mcp_some {h h2 : MH} {q0 q1 : Nat} {sp dp n : Int32} (e : mcp h q0 sp q1 dp n = some h2) : ¬ sp < 0 ∧ ¬ dp < 0 ∧ ¬ n < 0 ∧ ∃ n0 f n1 g, h q0 = .inl (n0, f) ∧ h q1 = .inl (n1, g) ∧ sp.toNatClampNeg + n.toNatClampNeg ≤ n0 ∧ dp.toNatClampNeg + n.toNatClampNeg ≤ n1 ∧ h2 = mup h q1 (.inl (n1, mcpy f g sp.toNatClampNeg dp.toNatClampNeg n.toNatClampNeg)) := by
  unfold mcp at e
  split at e
  · rename_i n0 f n1 g hq0 hq1
    split at e
    · cases e
    · rename_i h0
      split at e
      · rename_i h1
        cases e
        exact ⟨fun z => h0 (Or.inl z), fun z => h0 (Or.inr (Or.inl z)), fun z => h0 (Or.inr (Or.inr z)), n0, f, n1, g, hq0, hq1, h1.1, h1.2, rfl⟩
      · cases e
  · cases e
theorem gd_map {L : List Int32} {j : Nat} (hj : j < L.length) : Value.int (L.getD j 0) = (L.map Value.int).getD j .null := by
  simp only [List.getD_eq_getElem?_getD, List.getElem?_map, List.getElem?_eq_getElem hj, Option.map_some, Option.getD_some]
/-- an outside row: which one, and what the machine has there -/
theorem out_row {sv : Value} {ao : Nat → Nat} {xs : List Int32} {A : Nat → Prop} {s : State} (hO : OutS sv ao xs A s s.heap) {q c : Nat} {fs : List Value} (hq : outc xs q = .inr (.inr (c, fs))) (hc : c = 8 ∨ c = 9) : va_T .int (ao q) fs.length (fun j => fs.getD j .null) A s s.heap := by
  obtain ⟨-, -, -, -, -, h6, h7, -⟩ := hO
  rcases outc_obj hq with ⟨_, e1, e2⟩ | ⟨_, e1, e2⟩ | ⟨e, _⟩ | ⟨e, _⟩
  · subst e1; subst e2
    obtain ⟨cell, g1, g2, g3, g4, g5, g6, g7⟩ := h7
    refine ⟨cell, g1, g2, g3, by rw [List.length_map]; exact g4, by rw [List.length_map]; exact g5, fun j hj => ?_, g7⟩
    rw [List.length_map] at hj
    rw [g6 j hj]
    exact congrArg some (gd_map hj)
  · subst e1; subst e2; exact h6
  · omega
  · omega
theorem out_byte {sv : Value} {ao : Nat → Nat} {xs : List Int32} {A : Nat → Prop} {s : State} (hO : OutS sv ao xs A s s.heap) {q c : Nat} {fs : List Value} (hq : outc xs q = .inr (.inr (c, fs))) (hc : c = 10) : va_T .byte (ao q) fs.length (fun j => fs.getD j .null) A s s.heap := by
  rcases outc_obj hq with ⟨e, _⟩ | ⟨e, _⟩ | ⟨e, _⟩ | ⟨_, i, hi, e1, e2⟩
  · omega
  · omega
  · omega
  · subst e1; subst e2
    obtain ⟨-, -, -, cell, g1, g2, g3, g4, g5, g6, g7⟩ := hO.1.1 i hi
    rw [slen_ok i hi] at g4 g5 g6
    refine ⟨cell, g1, g2, g3, by rw [List.length_map]; exact g4, by rw [List.length_map]; exact g5, fun j hj => ?_, g7⟩
    rw [List.length_map] at hj
    rw [g6 j hj]
    exact congrArg some (gd_map hj)
theorem tys_e {Z : ClassId × ClassId × ClassId} {e : Nat} (he : e = 0 ∨ e = 3) : ∃ t0 : Nat, (tysZ Z)[t0]? = some (if e = 3 then Z.2.1 else Z.2.2, FieldType.object (mown e)) := by
  rcases he with rfl | rfl
  · exact ⟨2, rfl⟩
  · exact ⟨1, rfl⟩
theorem mrf_tv {sv : Value} {ad : Nat → Nat} {r : Option Nat} : tv sv ad (mrf r) = va_rf (r.map ad) := by cases r <;> rfl
theorem obj_out {xs : List Int32} {n : Nat} {h : MH} (hI : hin xs n h) {q c : Nat} {fs : List Value} (hq : h q = .inr (.inr (c, fs))) (hc : ¬ c < 7) : 1000 ≤ q ∧ outc xs q = .inr (.inr (c, fs)) := by
  rcases hin_lt hI (q := q) with ⟨_, h2⟩ | h1 | ⟨h1, h2⟩
  · rw [hq] at h2; exact absurd h2.1 hc
  · rw [hq] at h1; cases h1
  · exact ⟨h1, h2.symm.trans hq⟩

set_option maxHeartbeats 1000000 in
theorem sd_iaload {p : Program} {l : Launch} {e : Env} {R : Room} {s : State} {m : MethodId} {args : Array Value} {below : List Frame} {meth : Method} {c : Code} {H : Heap} {locs : List Loc} {Q : State → Prop} {A : Nat → Prop} {xs : List Int32} {sv : Value} {ao ad : Nat → Nat} {Z : ClassId × ClassId × ClassId} {D : va_G} {f : MInfo} {nL pc pc2 c0 s0 : Nat} {ls ls2 : ML} {st st2 : List Value} {a a2 : MA} {h h2 : MH} {ls' : Array Slot} {len x y : Nat} {cc : Int}  (C : Cx p R s m args meth c A xs sv ao Z D f nL) (hdec : decode f.2.2.1 pc = .ok (.iaload, len)) (hl : len = 1) (hlk : LKb f (.iaload, len, x, y, cc) = true) (ha : mact (.iaload, len, x, y, cc) pc ls st a h = some (.inl (pc2, ls2, st2, a2, h2))) (hR : Rp s A xs sv ao Z D nL ad a.1 h H locs ls' ls st) (hc : a2.2.1 - c0 ≤ R.cells) (hs : a2.2.2 - s0 ≤ R.slots) (hc0 : c0 ≤ a.2.1) (hs0 : s0 ≤ a.2.2) (kk : ∀ (ad' : Nat → Nat) (H' : Heap) (locs' : List Loc) (ls'' : Array Slot), Rp s A xs sv ao Z D nL ad' a2.1 h2 H' locs' ls'' ls2 st2 → (∀ k, k < a.1 → ad' k = ad k) → W p l e R s m args below meth c H' locs' (a2.2.1 - c0) (a2.2.2 - s0) Q (F0 m pc2 ls'' (st2.map (tv sv ad')))) : W p l e R s m args below meth c H locs (a.2.1 - c0) (a.2.2 - s0) Q (F0 m pc ls' (st.map (tv sv ad))) := by
  subst hl
  obtain ⟨hx, hb, hml, hown, hts, hK, hA, hO, hin0, hfr, hlo, hsv⟩ := C
  obtain ⟨hP, hD, hS, hI, hL, hT, hlr, hao, hnl⟩ := hR
  obtain ⟨k, q, r, rfl, ha⟩ := m_ir ha
  have ha := (show (match mld h q k false with | some x => nx (pc + 1) ls (.int x :: r) a h | none => none) = some _ from ha)
  obtain ⟨v, hg, ha⟩ := m_oI (o := mld h q k false) (F := fun x => nx (pc + 1) ls (.int x :: r) a h) ha
  cases ha
  obtain ⟨h0, hg⟩ := mld_some hg
  rcases hg with ⟨hb1, n, g, hq, hkn, rfl⟩ | ⟨c1, fs, hq, hc1, hv⟩
  · have hqn := row_in hI hq
    exact va_iald (n := n) (f := g) hx hb hK hP q 0 (cA := Z.1) (by rw [wsl_get hqn, hq]; rfl) rfl (vp_of h0 hkn) hdec (kk ad H locs ls' ⟨hP, hD, hS, hI, hL, (sin_c trivial (sin_tl (sin_tl hT))), hlr, hao, hnl⟩ (fun _ _ => rfl))
  · have hc2 : c1 = 8 ∨ c1 = 9 := hc1.elim (fun z => z.1) (fun z => nomatch z.2)
    obtain ⟨hq1, hqo⟩ := obj_out hI hq (by omega)
    have hlt : k.toNatClampNeg < fs.length := (List.getElem?_eq_some_iff.mp hv).1
    rw [show (Value.int k :: Value.ref q :: r).map (tv sv ad) = .int k :: .ref (ao q) :: r.map (tv sv ad) from by rw [← hao q hq1]; rfl]
    exact va_ti hx hb (out_row hO hqo hc2) hS (vp_of h0 hlt) (by simp only [List.getD_eq_getElem?_getD, hv]; rfl) hdec (kk ad H locs ls' ⟨hP, hD, hS, hI, hL, (sin_c trivial (sin_tl (sin_tl hT))), hlr, hao, hnl⟩ (fun _ _ => rfl))
set_option maxHeartbeats 1000000 in
theorem sd_baload {p : Program} {l : Launch} {e : Env} {R : Room} {s : State} {m : MethodId} {args : Array Value} {below : List Frame} {meth : Method} {c : Code} {H : Heap} {locs : List Loc} {Q : State → Prop} {A : Nat → Prop} {xs : List Int32} {sv : Value} {ao ad : Nat → Nat} {Z : ClassId × ClassId × ClassId} {D : va_G} {f : MInfo} {nL pc pc2 c0 s0 : Nat} {ls ls2 : ML} {st st2 : List Value} {a a2 : MA} {h h2 : MH} {ls' : Array Slot} {len x y : Nat} {cc : Int}  (C : Cx p R s m args meth c A xs sv ao Z D f nL) (hdec : decode f.2.2.1 pc = .ok (.baload, len)) (hl : len = 1) (hlk : LKb f (.baload, len, x, y, cc) = true) (ha : mact (.baload, len, x, y, cc) pc ls st a h = some (.inl (pc2, ls2, st2, a2, h2))) (hR : Rp s A xs sv ao Z D nL ad a.1 h H locs ls' ls st) (hc : a2.2.1 - c0 ≤ R.cells) (hs : a2.2.2 - s0 ≤ R.slots) (hc0 : c0 ≤ a.2.1) (hs0 : s0 ≤ a.2.2) (kk : ∀ (ad' : Nat → Nat) (H' : Heap) (locs' : List Loc) (ls'' : Array Slot), Rp s A xs sv ao Z D nL ad' a2.1 h2 H' locs' ls'' ls2 st2 → (∀ k, k < a.1 → ad' k = ad k) → W p l e R s m args below meth c H' locs' (a2.2.1 - c0) (a2.2.2 - s0) Q (F0 m pc2 ls'' (st2.map (tv sv ad')))) : W p l e R s m args below meth c H locs (a.2.1 - c0) (a.2.2 - s0) Q (F0 m pc ls' (st.map (tv sv ad))) := by
  subst hl
  obtain ⟨hx, hb, hml, hown, hts, hK, hA, hO, hin0, hfr, hlo, hsv⟩ := C
  obtain ⟨hP, hD, hS, hI, hL, hT, hlr, hao, hnl⟩ := hR
  obtain ⟨k, q, r, rfl, ha⟩ := m_ir ha
  have ha := (show (match mld h q k true with | some x => nx (pc + 1) ls (.int x :: r) a h | none => none) = some _ from ha)
  obtain ⟨v, hg, ha⟩ := m_oI (o := mld h q k true) (F := fun x => nx (pc + 1) ls (.int x :: r) a h) ha
  cases ha
  obtain ⟨h0, hg⟩ := mld_some hg
  rcases hg with ⟨hb1, n, g, hq, hkn, rfl⟩ | ⟨c1, fs, hq, hc1, hv⟩
  · cases hb1
  · have hc2 : c1 = 10 := hc1.elim (fun z => nomatch z.2) (fun z => z.1)
    obtain ⟨hq1, hqo⟩ := obj_out hI hq (by omega)
    have hlt : k.toNatClampNeg < fs.length := (List.getElem?_eq_some_iff.mp hv).1
    rw [show (Value.int k :: Value.ref q :: r).map (tv sv ad) = .int k :: .ref (ao q) :: r.map (tv sv ad) from by rw [← hao q hq1]; rfl]
    exact va_tb hx hb (out_byte hO hqo hc2) hS (vp_of h0 hlt) (by simp only [List.getD_eq_getElem?_getD, hv]; rfl) hdec (kk ad H locs ls' ⟨hP, hD, hS, hI, hL, (sin_c trivial (sin_tl (sin_tl hT))), hlr, hao, hnl⟩ (fun _ _ => rfl))
set_option maxHeartbeats 1000000 in
theorem sd_iastore {p : Program} {l : Launch} {e : Env} {R : Room} {s : State} {m : MethodId} {args : Array Value} {below : List Frame} {meth : Method} {c : Code} {H : Heap} {locs : List Loc} {Q : State → Prop} {A : Nat → Prop} {xs : List Int32} {sv : Value} {ao ad : Nat → Nat} {Z : ClassId × ClassId × ClassId} {D : va_G} {f : MInfo} {nL pc pc2 c0 s0 : Nat} {ls ls2 : ML} {st st2 : List Value} {a a2 : MA} {h h2 : MH} {ls' : Array Slot} {len x y : Nat} {cc : Int}  (C : Cx p R s m args meth c A xs sv ao Z D f nL) (hdec : decode f.2.2.1 pc = .ok (.iastore, len)) (hl : len = 1) (hlk : LKb f (.iastore, len, x, y, cc) = true) (ha : mact (.iastore, len, x, y, cc) pc ls st a h = some (.inl (pc2, ls2, st2, a2, h2))) (hR : Rp s A xs sv ao Z D nL ad a.1 h H locs ls' ls st) (hc : a2.2.1 - c0 ≤ R.cells) (hs : a2.2.2 - s0 ≤ R.slots) (hc0 : c0 ≤ a.2.1) (hs0 : s0 ≤ a.2.2) (kk : ∀ (ad' : Nat → Nat) (H' : Heap) (locs' : List Loc) (ls'' : Array Slot), Rp s A xs sv ao Z D nL ad' a2.1 h2 H' locs' ls'' ls2 st2 → (∀ k, k < a.1 → ad' k = ad k) → W p l e R s m args below meth c H' locs' (a2.2.1 - c0) (a2.2.2 - s0) Q (F0 m pc2 ls'' (st2.map (tv sv ad')))) : W p l e R s m args below meth c H locs (a.2.1 - c0) (a.2.2 - s0) Q (F0 m pc ls' (st.map (tv sv ad))) := by
  subst hl
  obtain ⟨hx, hb, hml, hown, hts, hK, hA, hO, hin0, hfr, hlo, hsv⟩ := C
  obtain ⟨hP, hD, hS, hI, hL, hT, hlr, hao, hnl⟩ := hR
  obtain ⟨v, k, q, r, rfl, ha⟩ := m_iir ha
  have ha := (show (match mias h q k v with | some h' => nx (pc + 1) ls r a h' | none => none) = some _ from ha)
  obtain ⟨h3, hg, ha⟩ := m_oH (o := mias h q k v) (F := fun h' => nx (pc + 1) ls r a h') ha
  cases ha
  obtain ⟨h0, n, g, hq, hkn, rfl⟩ := mias_some hg
  have hqn := row_in hI hq
  refine va_iast (n := n) (f := g) hx hb hK hP hD hS q 0 (cA := Z.1) (by rw [wsl_get hqn, hq]; rfl) rfl (vp_of h0 hkn) hdec (fun H1 locs1 hP1 hD1 hS1 => ?_)
  have hset : (wsl Z sv ad a.1 h).set q (ad q, .inl (Z.1, n, .inl (upd g k.toNatClampNeg v))) = wsl Z sv ad a.1 (mup h q (.inl (n, mfu g k.toNatClampNeg v))) := wsl_set (c := .inl (n, mfu g k.toNatClampNeg v)) hqn
  rw [hset] at hP1 hD1
  exact kk ad H1 locs1 ls' ⟨hP1, hD1, hS1, hin_up hI hqn trivial, hL, sin_tl (sin_tl (sin_tl hT)), hlr, hao, hnl⟩ (fun _ _ => rfl)
set_option maxHeartbeats 1000000 in
theorem sd_aaload {p : Program} {l : Launch} {e : Env} {R : Room} {s : State} {m : MethodId} {args : Array Value} {below : List Frame} {meth : Method} {c : Code} {H : Heap} {locs : List Loc} {Q : State → Prop} {A : Nat → Prop} {xs : List Int32} {sv : Value} {ao ad : Nat → Nat} {Z : ClassId × ClassId × ClassId} {D : va_G} {f : MInfo} {nL pc pc2 c0 s0 : Nat} {ls ls2 : ML} {st st2 : List Value} {a a2 : MA} {h h2 : MH} {ls' : Array Slot} {len x y : Nat} {cc : Int}  (C : Cx p R s m args meth c A xs sv ao Z D f nL) (hdec : decode f.2.2.1 pc = .ok (.aaload, len)) (hl : len = 1) (hlk : LKb f (.aaload, len, x, y, cc) = true) (ha : mact (.aaload, len, x, y, cc) pc ls st a h = some (.inl (pc2, ls2, st2, a2, h2))) (hR : Rp s A xs sv ao Z D nL ad a.1 h H locs ls' ls st) (hc : a2.2.1 - c0 ≤ R.cells) (hs : a2.2.2 - s0 ≤ R.slots) (hc0 : c0 ≤ a.2.1) (hs0 : s0 ≤ a.2.2) (kk : ∀ (ad' : Nat → Nat) (H' : Heap) (locs' : List Loc) (ls'' : Array Slot), Rp s A xs sv ao Z D nL ad' a2.1 h2 H' locs' ls'' ls2 st2 → (∀ k, k < a.1 → ad' k = ad k) → W p l e R s m args below meth c H' locs' (a2.2.1 - c0) (a2.2.2 - s0) Q (F0 m pc2 ls'' (st2.map (tv sv ad')))) : W p l e R s m args below meth c H locs (a.2.1 - c0) (a.2.2 - s0) Q (F0 m pc ls' (st.map (tv sv ad))) := by
  subst hl
  obtain ⟨hx, hb, hml, hown, hts, hK, hA, hO, hin0, hfr, hlo, hsv⟩ := C
  obtain ⟨hP, hD, hS, hI, hL, hT, hlr, hao, hnl⟩ := hR
  obtain ⟨k, q, r, rfl, ha⟩ := m_ir ha
  have ha := (show (match mald h q k with | some v => nx (pc + 1) ls (v :: r) a h | none => none) = some _ from ha)
  obtain ⟨v, hg, ha⟩ := m_oV (o := mald h q k) (F := fun v => nx (pc + 1) ls (v :: r) a h) ha
  cases ha
  obtain ⟨h0, e1, n, g, hq, hne, hkn, rfl⟩ := mald_some hg
  obtain ⟨hqn, he, hcl⟩ := refs_in hI hq hne
  obtain ⟨t0, ht0⟩ := tys_e (Z := Z) he
  have K := kk ad H locs ls' ⟨hP, hD, hS, hI, hL, sin_c (by cases hgk : g k.toNatClampNeg with | none => exact trivial | some z => exact hcl _ z hkn hgk) (sin_tl (sin_tl hT)), hlr, hao, hnl⟩ (fun _ _ => rfl)
  rw [List.map_cons, mrf_tv] at K
  refine va_aldq (n := n) (f := fun i => if i < n then (g i).map ad else none) hx hb hK hP q t0 (by rw [wsl_get hqn, hq]; rfl) ht0 (vp_of h0 hkn) hdec ?_
  rw [if_pos hkn]
  exact K
set_option maxHeartbeats 1000000 in
theorem sd_aastore {p : Program} {l : Launch} {e : Env} {R : Room} {s : State} {m : MethodId} {args : Array Value} {below : List Frame} {meth : Method} {c : Code} {H : Heap} {locs : List Loc} {Q : State → Prop} {A : Nat → Prop} {xs : List Int32} {sv : Value} {ao ad : Nat → Nat} {Z : ClassId × ClassId × ClassId} {D : va_G} {f : MInfo} {nL pc pc2 c0 s0 : Nat} {ls ls2 : ML} {st st2 : List Value} {a a2 : MA} {h h2 : MH} {ls' : Array Slot} {len x y : Nat} {cc : Int}  (C : Cx p R s m args meth c A xs sv ao Z D f nL) (hdec : decode f.2.2.1 pc = .ok (.aastore, len)) (hl : len = 1) (hlk : LKb f (.aastore, len, x, y, cc) = true) (ha : mact (.aastore, len, x, y, cc) pc ls st a h = some (.inl (pc2, ls2, st2, a2, h2))) (hR : Rp s A xs sv ao Z D nL ad a.1 h H locs ls' ls st) (hc : a2.2.1 - c0 ≤ R.cells) (hs : a2.2.2 - s0 ≤ R.slots) (hc0 : c0 ≤ a.2.1) (hs0 : s0 ≤ a.2.2) (kk : ∀ (ad' : Nat → Nat) (H' : Heap) (locs' : List Loc) (ls'' : Array Slot), Rp s A xs sv ao Z D nL ad' a2.1 h2 H' locs' ls'' ls2 st2 → (∀ k, k < a.1 → ad' k = ad k) → W p l e R s m args below meth c H' locs' (a2.2.1 - c0) (a2.2.2 - s0) Q (F0 m pc2 ls'' (st2.map (tv sv ad')))) : W p l e R s m args below meth c H locs (a.2.1 - c0) (a.2.2 - s0) Q (F0 m pc ls' (st.map (tv sv ad))) := by
  subst hl
  obtain ⟨hx, hb, hml, hown, hts, hK, hA, hO, hin0, hfr, hlo, hsv⟩ := C
  obtain ⟨hP, hD, hS, hI, hL, hT, hlr, hao, hnl⟩ := hR
  obtain ⟨v, k, q, r, rfl, ha⟩ := m_rir ha
  have ha := (show (match maas h q k v with | some h' => nx (pc + 1) ls r a h' | none => none) = some _ from ha)
  obtain ⟨h3, hg, ha⟩ := m_oH (o := maas h q k v) (F := fun h' => nx (pc + 1) ls r a h') ha
  cases ha
  obtain ⟨h0, e1, n, g, hq, hne, hkn, ⟨fs, hv⟩, rfl⟩ := maas_some hg
  obtain ⟨hqn, he, hcl⟩ := refs_in hI hq hne
  obtain ⟨t0, ht0⟩ := tys_e (Z := Z) he
  have he7 : e1 < 7 := by omega
  obtain ⟨hvn, -⟩ := obj_in hI hv he7
  refine va_astq (n := n) (f := fun i => if i < n then (g i).map ad else none) (r := (mown e1, (clsT e1).1, (clsT e1).2.2)) hx hb hK hP hD hS q t0 v e1 (by rw [wsl_get hqn, hq]; rfl) ht0 (by rw [wsl_get hvn, hv]; rfl) (vwCl_at e1 he7) (vp_of h0 hkn) hdec (fun H1 locs1 hP1 hD1 hS1 => ?_)
  have hfun : va_up (fun i => if i < n then (g i).map ad else none) k.toNatClampNeg (some (ad v)) = fun i => if i < n then (mfu g k.toNatClampNeg (some v) i).map ad else none := by
    funext j
    unfold va_up mfu
    by_cases e : j = k.toNatClampNeg
    · subst e; rw [if_pos rfl, if_pos hkn, if_pos rfl]; rfl
    · rw [if_neg e, if_neg e]
  have hset : (wsl Z sv ad a.1 h).set q (ad q, .inl (if e1 = 3 then Z.2.1 else Z.2.2, n, .inr (.inr (.inr (.inr (va_up (fun i => if i < n then (g i).map ad else none) k.toNatClampNeg (some (ad v)))))))) = wsl Z sv ad a.1 (mup h q (.inr (.inl (e1, n, mfu g k.toNatClampNeg (some v))))) := by
    rw [← wsl_set hqn, hfun]; rfl
  rw [hset] at hP1 hD1
  refine kk ad H1 locs1 ls' ⟨hP1, hD1, hS1, hin_up hI hqn ⟨he, fun i z hi hz => ?_⟩, hL, sin_tl (sin_tl (sin_tl hT)), hlr, hao, hnl⟩ (fun _ _ => rfl)
  unfold mfu at hz
  split at hz
  · cases hz; exact Or.inl hvn
  · exact hcl i z hi hz
set_option maxHeartbeats 1000000 in
theorem sd_arraylength {p : Program} {l : Launch} {e : Env} {R : Room} {s : State} {m : MethodId} {args : Array Value} {below : List Frame} {meth : Method} {c : Code} {H : Heap} {locs : List Loc} {Q : State → Prop} {A : Nat → Prop} {xs : List Int32} {sv : Value} {ao ad : Nat → Nat} {Z : ClassId × ClassId × ClassId} {D : va_G} {f : MInfo} {nL pc pc2 c0 s0 : Nat} {ls ls2 : ML} {st st2 : List Value} {a a2 : MA} {h h2 : MH} {ls' : Array Slot} {len x y : Nat} {cc : Int}  (C : Cx p R s m args meth c A xs sv ao Z D f nL) (hdec : decode f.2.2.1 pc = .ok (.arraylength, len)) (hl : len = 1) (hlk : LKb f (.arraylength, len, x, y, cc) = true) (ha : mact (.arraylength, len, x, y, cc) pc ls st a h = some (.inl (pc2, ls2, st2, a2, h2))) (hR : Rp s A xs sv ao Z D nL ad a.1 h H locs ls' ls st) (hc : a2.2.1 - c0 ≤ R.cells) (hs : a2.2.2 - s0 ≤ R.slots) (hc0 : c0 ≤ a.2.1) (hs0 : s0 ≤ a.2.2) (kk : ∀ (ad' : Nat → Nat) (H' : Heap) (locs' : List Loc) (ls'' : Array Slot), Rp s A xs sv ao Z D nL ad' a2.1 h2 H' locs' ls'' ls2 st2 → (∀ k, k < a.1 → ad' k = ad k) → W p l e R s m args below meth c H' locs' (a2.2.1 - c0) (a2.2.2 - s0) Q (F0 m pc2 ls'' (st2.map (tv sv ad')))) : W p l e R s m args below meth c H locs (a.2.1 - c0) (a.2.2 - s0) Q (F0 m pc ls' (st.map (tv sv ad))) := by
  subst hl
  obtain ⟨hx, hb, hml, hown, hts, hK, hA, hO, hin0, hfr, hlo, hsv⟩ := C
  obtain ⟨hP, hD, hS, hI, hL, hT, hlr, hao, hnl⟩ := hR
  obtain ⟨q, r, rfl, ha⟩ := m_r ha
  have ha := (show (match mlen h q with | some x => nx (pc + 1) ls (.int x :: r) a h | none => none) = some _ from ha)
  obtain ⟨v, hg, ha⟩ := m_oI (o := mlen h q) (F := fun x => nx (pc + 1) ls (.int x :: r) a h) ha
  cases ha
  rcases mlen_some hg with ⟨n, g, hq, hv⟩ | ⟨e1, n, g, hq, hne, hv⟩ | ⟨c1, fs, hq, hc1, hv⟩
  · have hqn := row_in hI hq
    exact va_alen hx hb hK hP q 0 (cA := Z.1) (x := (n, .inl g)) (by rw [wsl_get hqn, hq]; rfl) (ty := .int) rfl hv hdec (kk ad H locs ls' ⟨hP, hD, hS, hI, hL, (sin_c trivial (sin_tl hT)), hlr, hao, hnl⟩ (fun _ _ => rfl))
  · obtain ⟨hqn, he, hcl⟩ := refs_in hI hq hne
    obtain ⟨t0, ht0⟩ := tys_e (Z := Z) he
    exact va_alen hx hb hK hP q t0 (x := (n, .inr (.inr (.inr (.inr (fun i => if i < n then (g i).map ad else none)))))) (by rw [wsl_get hqn, hq]; rfl) ht0 hv hdec (kk ad H locs ls' ⟨hP, hD, hS, hI, hL, (sin_c trivial (sin_tl hT)), hlr, hao, hnl⟩ (fun _ _ => rfl))
  · obtain ⟨hq1, hqo⟩ := obj_out hI hq (by omega)
    rw [show (Value.ref q :: r).map (tv sv ad) = .ref (ao q) :: r.map (tv sv ad) from by rw [← hao q hq1]; rfl]
    by_cases h10 : c1 = 10
    · exact va_tlen hx hb (out_byte hO hqo h10) hS hv hdec (kk ad H locs ls' ⟨hP, hD, hS, hI, hL, (sin_c trivial (sin_tl hT)), hlr, hao, hnl⟩ (fun _ _ => rfl))
    · exact va_tlen hx hb (out_row hO hqo (by omega)) hS hv hdec (kk ad H locs ls' ⟨hP, hD, hS, hI, hL, (sin_c trivial (sin_tl hT)), hlr, hao, hnl⟩ (fun _ _ => rfl))
set_option maxHeartbeats 1000000 in
theorem sd_new {p : Program} {l : Launch} {e : Env} {R : Room} {s : State} {m : MethodId} {args : Array Value} {below : List Frame} {meth : Method} {c : Code} {H : Heap} {locs : List Loc} {Q : State → Prop} {A : Nat → Prop} {xs : List Int32} {sv : Value} {ao ad : Nat → Nat} {Z : ClassId × ClassId × ClassId} {D : va_G} {f : MInfo} {nL pc pc2 c0 s0 : Nat} {ls ls2 : ML} {st st2 : List Value} {a a2 : MA} {h h2 : MH} {ls' : Array Slot} {len x y : Nat} {cc : Int} {k : Nat} (C : Cx p R s m args meth c A xs sv ao Z D f nL) (hdec : decode f.2.2.1 pc = .ok (.new k, len)) (hl : len = 3) (hlk : LKb f (.new k, len, x, y, cc) = true) (ha : mact (.new k, len, x, y, cc) pc ls st a h = some (.inl (pc2, ls2, st2, a2, h2))) (hR : Rp s A xs sv ao Z D nL ad a.1 h H locs ls' ls st) (hc : a2.2.1 - c0 ≤ R.cells) (hs : a2.2.2 - s0 ≤ R.slots) (hc0 : c0 ≤ a.2.1) (hs0 : s0 ≤ a.2.2) (kk : ∀ (ad' : Nat → Nat) (H' : Heap) (locs' : List Loc) (ls'' : Array Slot), Rp s A xs sv ao Z D nL ad' a2.1 h2 H' locs' ls'' ls2 st2 → (∀ k, k < a.1 → ad' k = ad k) → W p l e R s m args below meth c H' locs' (a2.2.1 - c0) (a2.2.2 - s0) Q (F0 m pc2 ls'' (st2.map (tv sv ad')))) : W p l e R s m args below meth c H locs (a.2.1 - c0) (a.2.2 - s0) Q (F0 m pc ls' (st.map (tv sv ad))) := by
  subst hl
  obtain ⟨hx, hb, hml, hown, hts, hK, hA, hO, hin0, hfr, hlo, hsv⟩ := C
  obtain ⟨hP, hD, hS, hI, hL, hT, hlr, hao, hnl⟩ := hR
  have ha := (show (if a.1 < 999 then nx (pc + 3) ls (.ref a.1 :: st) (a.1 + 1, a.2.1 + 1, a.2.2 + (mdf x).length) (mup h a.1 (.inr (.inr (x, mdf x)))) else none) = some _ from ha)
  obtain ⟨hn, ha⟩ := m_if ha
  cases ha
  dsimp only at kk hc hs
  simp only [LKb, Bool.and_eq_true, decide_eq_true_eq, beq_iff_eq] at hlk
  obtain ⟨hx7, hlink⟩ := hlk
  have e1 : a.2.1 + 1 - c0 = (a.2.1 - c0) + 1 := by omega
  have e2 : a.2.2 + (mdf x).length - s0 = (a.2.2 - s0) + (mdf x).length := by omega
  rw [e1, e2] at kk
  rw [e1] at hc
  rw [e2] at hs
  have hlen : (mdf x).length = (clsT x).2.2 := by
    match x, hx7 with
    | 0, _ => rfl
    | 1, _ => rfl
    | 2, _ => rfl
    | 3, _ => rfl
    | 4, _ => rfl
    | 5, _ => rfl
    | 6, _ => rfl
  have hdf : ∀ j, j < (clsT x).2.2 → defaultValue ((clsT x).2.1 j) = vp_V (mdf x) j := mdf_ok x hx7
  have hI3 : (Cond.instantiable (mown x) (clsT x).2.2).before args s = true ∧ (Cond.initialized (mown x)).before args s = true := inst_ok hts x hx7
  rw [hlen] at kk hs
  refine va_new (ci := x) (fs := mdf x) (C := mown x) (T := (clsT x).1) (N := (clsT x).2.2) hx hb hts (uws_in x hx7) (clsT x).2.1 (ty_ok x hx7) hown (wt_link hts hlink) hI3.1 hI3.2 hK hP hD hS hA (vwCl_at x hx7) hdf hc hs hdec (fun qn H1 hP1 hD1 hS1 => ?_)
  have hcc : tc Z sv (mfu ad a.1 qn) (.inr (.inr (x, mdf x))) = tc Z sv ad (.inr (.inr (x, mdf x))) := by
    show (Sum.inr (x, (mdf x).map (tv sv (mfu ad a.1 qn))) : va_E) = Sum.inr (x, (mdf x).map (tv sv ad))
    rw [mdf_tv, mdf_tv]
  have hcc2 : tc Z sv ad (.inr (.inr (x, mdf x))) = .inr (x, mdf x) := by
    show (Sum.inr (x, (mdf x).map (tv sv ad)) : va_E) = _
    rw [mdf_tv]
  rw [← hcc2, wsl_push hI.1 hI.2.1 hcc] at hP1 hD1
  have ha2 : ∀ z, z < a.1 ∨ 1000 ≤ z → mfu ad a.1 qn z = ad z := fun z hz => if_neg (by omega)
  have K := kk (mfu ad a.1 qn) H1 locs ls' ⟨hP1, hD1, hS1, hin_push hI hn ⟨hx7, mdf_clo x⟩, hL.mono (Nat.le_succ _), sin_c (Or.inl (Nat.lt_succ_self _)) (hT.mono (Nat.le_succ _)), lrep_eq hL ha2 hlr, fun z hz => (ha2 z (Or.inr hz)).trans (hao z hz), hnl⟩ (fun z hz => ha2 z (Or.inl hz))
  rw [List.map_cons, stk_eq hT ha2, show tv sv (mfu ad a.1 qn) (.ref a.1) = .ref qn from congrArg Value.ref (if_pos rfl)] at K
  exact K
set_option maxHeartbeats 1000000 in
theorem sd_newarray {p : Program} {l : Launch} {e : Env} {R : Room} {s : State} {m : MethodId} {args : Array Value} {below : List Frame} {meth : Method} {c : Code} {H : Heap} {locs : List Loc} {Q : State → Prop} {A : Nat → Prop} {xs : List Int32} {sv : Value} {ao ad : Nat → Nat} {Z : ClassId × ClassId × ClassId} {D : va_G} {f : MInfo} {nL pc pc2 c0 s0 : Nat} {ls ls2 : ML} {st st2 : List Value} {a a2 : MA} {h h2 : MH} {ls' : Array Slot} {len x y : Nat} {cc : Int} {ty : ArrayType} (C : Cx p R s m args meth c A xs sv ao Z D f nL) (hdec : decode f.2.2.1 pc = .ok (.newarray ty, len)) (hl : len = 2) (hlk : LKb f (.newarray ty, len, x, y, cc) = true) (ha : mact (.newarray ty, len, x, y, cc) pc ls st a h = some (.inl (pc2, ls2, st2, a2, h2))) (hR : Rp s A xs sv ao Z D nL ad a.1 h H locs ls' ls st) (hc : a2.2.1 - c0 ≤ R.cells) (hs : a2.2.2 - s0 ≤ R.slots) (hc0 : c0 ≤ a.2.1) (hs0 : s0 ≤ a.2.2) (kk : ∀ (ad' : Nat → Nat) (H' : Heap) (locs' : List Loc) (ls'' : Array Slot), Rp s A xs sv ao Z D nL ad' a2.1 h2 H' locs' ls'' ls2 st2 → (∀ k, k < a.1 → ad' k = ad k) → W p l e R s m args below meth c H' locs' (a2.2.1 - c0) (a2.2.2 - s0) Q (F0 m pc2 ls'' (st2.map (tv sv ad')))) : W p l e R s m args below meth c H locs (a.2.1 - c0) (a.2.2 - s0) Q (F0 m pc ls' (st.map (tv sv ad))) := by
  subst hl
  obtain ⟨hx, hb, hml, hown, hts, hK, hA, hO, hin0, hfr, hlo, hsv⟩ := C
  obtain ⟨hP, hD, hS, hI, hL, hT, hlr, hao, hnl⟩ := hR
  obtain ⟨v, r, rfl, ha⟩ := m_i ha
  have ha := (show (if v < 0 then none else if v.toNatClampNeg ≤ 65536 ∧ a.1 < 999 then nx (pc + 2) ls (.ref a.1 :: r) (a.1 + 1, a.2.1 + 1, a.2.2 + v.toNatClampNeg) (mup h a.1 (.inl (v.toNatClampNeg, fun _ => 0))) else none) = some _ from ha)
  obtain ⟨h0, ha⟩ := m_ifn ha
  obtain ⟨⟨hsz, hn⟩, ha⟩ := m_if ha
  cases ha
  dsimp only at kk hc hs
  simp only [LKb, Bool.and_eq_true, decide_eq_true_eq, beq_iff_eq] at hlk
  subst hlk
  have e1 : a.2.1 + 1 - c0 = (a.2.1 - c0) + 1 := by omega
  have e2 : a.2.2 + v.toNatClampNeg - s0 = (a.2.2 - s0) + v.toNatClampNeg := by omega
  rw [e1, e2] at kk
  rw [e1] at hc
  rw [e2] at hs
  refine va_newa (atype := .int) hx hb (hts _ (wms_in _ arr_in)) (ty := .int) rfl hK hP hD hS hA (a0 := (v.toNatClampNeg, .inl (fun _ => 0))) (fun cA => rfl) h0 rfl (by show v.toNatClampNeg * 4 ≤ 536870912; omega) hc hs hdec (fun qn cA H1 hK1 hP1 hD1 hS1 => ?_)
  have hcA : cA = Z.1 := arr_same (U := s) (ty := .int) (hK1.2 3 (cA, .int) rfl).2 (hK.2 0 (Z.1, .int) rfl).2
  subst hcA
  have hcc : tc Z sv (mfu ad a.1 qn) (.inl (v.toNatClampNeg, fun _ => 0)) = tc Z sv ad (.inl (v.toNatClampNeg, fun _ => 0)) := rfl
  rw [show (.inl (Z.1, v.toNatClampNeg, .inl (fun _ => 0)) : va_E) = tc Z sv ad (.inl (v.toNatClampNeg, fun _ => 0)) from rfl, wsl_push hI.1 hI.2.1 hcc] at hP1 hD1
  have ha2 : ∀ z, z < a.1 ∨ 1000 ≤ z → mfu ad a.1 qn z = ad z := fun z hz => if_neg (by omega)
  have K := kk (mfu ad a.1 qn) H1 locs ls' ⟨hP1, hD1, hS1, hin_push hI hn trivial, hL.mono (Nat.le_succ _), sin_c (Or.inl (Nat.lt_succ_self _)) ((sin_tl hT).mono (Nat.le_succ _)), lrep_eq hL ha2 hlr, fun z hz => (ha2 z (Or.inr hz)).trans (hao z hz), hnl⟩ (fun z hz => ha2 z (Or.inl hz))
  rw [List.map_cons, stk_eq (sin_tl hT) ha2, show tv sv (mfu ad a.1 qn) (.ref a.1) = .ref qn from congrArg Value.ref (if_pos rfl)] at K
  exact K
set_option maxHeartbeats 1000000 in
theorem sd_anewarray {p : Program} {l : Launch} {e : Env} {R : Room} {s : State} {m : MethodId} {args : Array Value} {below : List Frame} {meth : Method} {c : Code} {H : Heap} {locs : List Loc} {Q : State → Prop} {A : Nat → Prop} {xs : List Int32} {sv : Value} {ao ad : Nat → Nat} {Z : ClassId × ClassId × ClassId} {D : va_G} {f : MInfo} {nL pc pc2 c0 s0 : Nat} {ls ls2 : ML} {st st2 : List Value} {a a2 : MA} {h h2 : MH} {ls' : Array Slot} {len x y : Nat} {cc : Int} {k : Nat} (C : Cx p R s m args meth c A xs sv ao Z D f nL) (hdec : decode f.2.2.1 pc = .ok (.anewarray k, len)) (hl : len = 3) (hlk : LKb f (.anewarray k, len, x, y, cc) = true) (ha : mact (.anewarray k, len, x, y, cc) pc ls st a h = some (.inl (pc2, ls2, st2, a2, h2))) (hR : Rp s A xs sv ao Z D nL ad a.1 h H locs ls' ls st) (hc : a2.2.1 - c0 ≤ R.cells) (hs : a2.2.2 - s0 ≤ R.slots) (hc0 : c0 ≤ a.2.1) (hs0 : s0 ≤ a.2.2) (kk : ∀ (ad' : Nat → Nat) (H' : Heap) (locs' : List Loc) (ls'' : Array Slot), Rp s A xs sv ao Z D nL ad' a2.1 h2 H' locs' ls'' ls2 st2 → (∀ k, k < a.1 → ad' k = ad k) → W p l e R s m args below meth c H' locs' (a2.2.1 - c0) (a2.2.2 - s0) Q (F0 m pc2 ls'' (st2.map (tv sv ad')))) : W p l e R s m args below meth c H locs (a.2.1 - c0) (a.2.2 - s0) Q (F0 m pc ls' (st.map (tv sv ad))) := by
  subst hl
  obtain ⟨hx, hb, hml, hown, hts, hK, hA, hO, hin0, hfr, hlo, hsv⟩ := C
  obtain ⟨hP, hD, hS, hI, hL, hT, hlr, hao, hnl⟩ := hR
  obtain ⟨v, r, rfl, ha⟩ := m_i ha
  have ha := (show (if v < 0 then none else if v.toNatClampNeg ≤ 65536 ∧ a.1 < 999 then nx (pc + 3) ls (.ref a.1 :: r) (a.1 + 1, a.2.1 + 1, a.2.2 + v.toNatClampNeg) (mup h a.1 (.inr (.inl (x, v.toNatClampNeg, fun _ => none)))) else none) = some _ from ha)
  obtain ⟨h0, ha⟩ := m_ifn ha
  obtain ⟨⟨hsz, hn⟩, ha⟩ := m_if ha
  cases ha
  dsimp only at kk hc hs
  simp only [LKb, Bool.and_eq_true, decide_eq_true_eq, beq_iff_eq, Bool.or_eq_true] at hlk
  obtain ⟨hx03, hlink⟩ := hlk
  have e1 : a.2.1 + 1 - c0 = (a.2.1 - c0) + 1 := by omega
  have e2 : a.2.2 + v.toNatClampNeg - s0 = (a.2.2 - s0) + v.toNatClampNeg := by omega
  rw [e1, e2] at kk
  rw [e1] at hc
  rw [e2] at hs
  have hov : va_AO (mown x) s := by
    rcases hx03 with rfl | rfl
    · exact hO.2.2.2.2.2.2.2.2.1
    · exact hO.2.2.2.2.2.2.2.1
  refine va_newq hx hb hown (wt_link hts hlink) hov hK hP hD hS hA h0 rfl (by omega) hc hs hdec (fun qn cA H1 hK1 hP1 hD1 hS1 => ?_)
  have hcA : cA = (if x = 3 then Z.2.1 else Z.2.2) := by
    have g1 := (hK1.2 3 (cA, .object (mown x)) rfl).2
    rcases hx03 with rfl | rfl
    · exact arr_same g1 (hK.2 2 (Z.2.2, .object "SoakTub$Sheet") rfl).2
    · exact arr_same g1 (hK.2 1 (Z.2.1, .object "SoakTub$Thing") rfl).2
  subst hcA
  have hnone : ∀ (ad0 : Nat → Nat), tc Z sv ad0 (.inr (.inl (x, v.toNatClampNeg, fun _ => none))) = .inl (if x = 3 then Z.2.1 else Z.2.2, v.toNatClampNeg, .inr (.inr (.inr (.inr (fun _ => none))))) := by
    intro ad0
    show (Sum.inl (if x = 3 then Z.2.1 else Z.2.2, v.toNatClampNeg, .inr (.inr (.inr (.inr (fun i => if i < v.toNatClampNeg then none else none))))) : va_E) = _
    simp only [ite_self]
  have hcc : tc Z sv (mfu ad a.1 qn) (.inr (.inl (x, v.toNatClampNeg, fun _ => none))) = tc Z sv ad (.inr (.inl (x, v.toNatClampNeg, fun _ => none))) := (hnone _).trans (hnone _).symm
  rw [← hnone ad, wsl_push hI.1 hI.2.1 hcc] at hP1 hD1
  have ha2 : ∀ z, z < a.1 ∨ 1000 ≤ z → mfu ad a.1 qn z = ad z := fun z hz => if_neg (by omega)
  have K := kk (mfu ad a.1 qn) H1 locs ls' ⟨hP1, hD1, hS1, hin_push hI hn ⟨hx03, fun _ _ _ z => nomatch z⟩, hL.mono (Nat.le_succ _), sin_c (Or.inl (Nat.lt_succ_self _)) ((sin_tl hT).mono (Nat.le_succ _)), lrep_eq hL ha2 hlr, fun z hz => (ha2 z (Or.inr hz)).trans (hao z hz), hnl⟩ (fun z hz => ha2 z (Or.inl hz))
  rw [List.map_cons, stk_eq (sin_tl hT) ha2, show tv sv (mfu ad a.1 qn) (.ref a.1) = .ref qn from congrArg Value.ref (if_pos rfl)] at K
  exact K
set_option maxHeartbeats 1000000 in
theorem sd_copy {p : Program} {l : Launch} {e : Env} {R : Room} {s : State} {m : MethodId} {args : Array Value} {below : List Frame} {meth : Method} {c : Code} {H : Heap} {locs : List Loc} {Q : State → Prop} {A : Nat → Prop} {xs : List Int32} {sv : Value} {ao ad : Nat → Nat} {Z : ClassId × ClassId × ClassId} {D : va_G} {f : MInfo} {nL pc pc2 c0 s0 : Nat} {ls ls2 : ML} {st st2 : List Value} {a a2 : MA} {h h2 : MH} {ls' : Array Slot} {len x y : Nat} {cc : Int} {k : Nat} (hx98 : x = 9998) (C : Cx p R s m args meth c A xs sv ao Z D f nL) (hdec : decode f.2.2.1 pc = .ok (.invokestatic k, len)) (hl : len = 3) (hlk : LKb f (.invokestatic k, len, x, y, cc) = true) (ha : mact (.invokestatic k, len, x, y, cc) pc ls st a h = some (.inl (pc2, ls2, st2, a2, h2))) (hR : Rp s A xs sv ao Z D nL ad a.1 h H locs ls' ls st) (hc : a2.2.1 - c0 ≤ R.cells) (hs : a2.2.2 - s0 ≤ R.slots) (hc0 : c0 ≤ a.2.1) (hs0 : s0 ≤ a.2.2) (kk : ∀ (ad' : Nat → Nat) (H' : Heap) (locs' : List Loc) (ls'' : Array Slot), Rp s A xs sv ao Z D nL ad' a2.1 h2 H' locs' ls'' ls2 st2 → (∀ k, k < a.1 → ad' k = ad k) → W p l e R s m args below meth c H' locs' (a2.2.1 - c0) (a2.2.2 - s0) Q (F0 m pc2 ls'' (st2.map (tv sv ad')))) : W p l e R s m args below meth c H locs (a.2.1 - c0) (a.2.2 - s0) Q (F0 m pc ls' (st.map (tv sv ad))) := by
  subst hl
  obtain ⟨hx, hb, hml, hown, hts, hK, hA, hO, hin0, hfr, hlo, hsv⟩ := C
  obtain ⟨hP, hD, hS, hI, hL, hT, hlr, hao, hnl⟩ := hR
  subst hx98
  have ha := (show (match st with | .int n :: .int dp :: .ref q1 :: .int sp :: .ref q0 :: r => if mcat r ≤ 8 then (match mcp h q0 sp q1 dp n with | some h' => nx (pc + 3) ls r a h' | none => none) else none | _ => none) = some _ from ha)
  obtain ⟨n, dp, q1, sp, q0, r, rfl, ha⟩ := m_cp ha
  have ha := (show (if mcat r ≤ 8 then (match mcp h q0 sp q1 dp n with | some h' => nx (pc + 3) ls r a h' | none => none) else none) = some _ from ha)
  obtain ⟨hcat, ha⟩ := m_if ha
  obtain ⟨h3, hg, ha⟩ := m_oH (o := mcp h q0 sp q1 dp n) (F := fun h' => nx (pc + 3) ls r a h') ha
  cases ha
  obtain ⟨h1, h2, h4, n0, g0, n1, g1, hq0, hq1, h5, h6, rfl⟩ := mcp_some hg
  have hlk : (decide (1 ≤ f.2.2.2.2.1) && decide (wfind (wls f.1) k = some (.methodLink (mown f.1) k arraycopyName))) = true := hlk
  simp only [Bool.and_eq_true, decide_eq_true_eq] at hlk
  obtain ⟨hrk, hlink⟩ := hlk
  have hn0 := row_in hI hq0
  have hn1 := row_in hI hq1
  obtain ⟨⟨c1, c2⟩, c3, -⟩ := cp_in
  refine va_copyi (n0 := n0) (f := g0) (n1 := n1) (g := g1) (ty := .int) hx hb (by rw [hml, hlr.1, hnl]) hown (wt_link hts hlink) (hts _ (wms_in _ c1)) (hts _ (wms_in _ c2)) (hts _ (wms_in _ c3)) hK hP hD hS q0 q1 0 0 (by rw [wsl_get hn0, hq0]; rfl) (by rw [wsl_get hn1, hq1]; rfl) rfl rfl rfl h1 h2 h4 h5 h6 (fun _ _ => rfl) (by omega) ?_ hdec (fun H1 locs1 hP1 hD1 hS1 => ?_)
  · rw [mcat_tv hsv]; have := nfw; omega
  · have hset : (wsl Z sv ad a.1 h).set q1 (ad q1, .inl (Z.1, n1, .inl (va_cpy g0 g1 sp.toNatClampNeg dp.toNatClampNeg n.toNatClampNeg))) = wsl Z sv ad a.1 (mup h q1 (.inl (n1, mcpy g0 g1 sp.toNatClampNeg dp.toNatClampNeg n.toNatClampNeg))) := wsl_set (c := .inl (n1, mcpy g0 g1 sp.toNatClampNeg dp.toNatClampNeg n.toNatClampNeg)) hn1
    rw [hset] at hP1 hD1
    exact kk ad H1 locs1 ls' ⟨hP1, hD1, hS1, hin_up hI hn1 trivial, hL, sin_tl (sin_tl (sin_tl (sin_tl (sin_tl hT)))), hlr, hao, hnl⟩ (fun _ _ => rfl)
set_option maxHeartbeats 1000000 in
theorem sd_oinit {p : Program} {l : Launch} {e : Env} {R : Room} {s : State} {m : MethodId} {args : Array Value} {below : List Frame} {meth : Method} {c : Code} {H : Heap} {locs : List Loc} {Q : State → Prop} {A : Nat → Prop} {xs : List Int32} {sv : Value} {ao ad : Nat → Nat} {Z : ClassId × ClassId × ClassId} {D : va_G} {f : MInfo} {nL pc pc2 c0 s0 : Nat} {ls ls2 : ML} {st st2 : List Value} {a a2 : MA} {h h2 : MH} {ls' : Array Slot} {len x y : Nat} {cc : Int} {k : Nat} (hx99 : x = 9999) (C : Cx p R s m args meth c A xs sv ao Z D f nL) (hdec : decode f.2.2.1 pc = .ok (.invokespecial k, len)) (hl : len = 3) (hlk : LKb f (.invokespecial k, len, x, y, cc) = true) (ha : mact (.invokespecial k, len, x, y, cc) pc ls st a h = some (.inl (pc2, ls2, st2, a2, h2))) (hR : Rp s A xs sv ao Z D nL ad a.1 h H locs ls' ls st) (hc : a2.2.1 - c0 ≤ R.cells) (hs : a2.2.2 - s0 ≤ R.slots) (hc0 : c0 ≤ a.2.1) (hs0 : s0 ≤ a.2.2) (kk : ∀ (ad' : Nat → Nat) (H' : Heap) (locs' : List Loc) (ls'' : Array Slot), Rp s A xs sv ao Z D nL ad' a2.1 h2 H' locs' ls'' ls2 st2 → (∀ k, k < a.1 → ad' k = ad k) → W p l e R s m args below meth c H' locs' (a2.2.1 - c0) (a2.2.2 - s0) Q (F0 m pc2 ls'' (st2.map (tv sv ad')))) : W p l e R s m args below meth c H locs (a.2.1 - c0) (a.2.2 - s0) Q (F0 m pc ls' (st.map (tv sv ad))) := by
  subst hl
  obtain ⟨hx, hb, hml, hown, hts, hK, hA, hO, hin0, hfr, hlo, hsv⟩ := C
  obtain ⟨hP, hD, hS, hI, hL, hT, hlr, hao, hnl⟩ := hR
  subst hx99
  have ha := (show (match st with | .ref q :: r => if mcat r ≤ 8 then nx (pc + 3) ls r a h else none | _ => none) = some _ from ha)
  obtain ⟨q, r, rfl, ha⟩ := m_r ha
  have ha := (show (if mcat r ≤ 8 then nx (pc + 3) ls r a h else none) = some _ from ha)
  obtain ⟨hcat, ha⟩ := m_if ha
  cases ha
  have hlk : (decide (1 ≤ f.2.2.2.2.1) && decide (wfind (wls f.1) k = some (.methodLink (mown f.1) k Lib.objectInit))) = true := hlk
  simp only [Bool.and_eq_true, decide_eq_true_eq] at hlk
  obtain ⟨hrk, hlink⟩ := hlk
  obtain ⟨-, -, c4, c5⟩ := cp_in
  refine W.objInit hx hb hown (wt_link hts hlink) (hts _ (wms_in _ c4)) (hts _ (wms_in _ c5)) (g := F0 m pc ls' (.ref (ad q) :: st2.map (tv sv ad))) rfl (by rw [hml, ← hnl]; exact hlr.1) rfl hdec (by omega) ?_ ?_
  · show 2 * 0 + ((st2.map (tv sv ad)).map fun v => v.category).sum + 12 ≤ R.locals
    rw [mcat_tv hsv]; omega
  · exact kk ad H locs ls' ⟨hP, hD, hS, hI, hL, (sin_tl hT), hlr, hao, hnl⟩ (fun _ _ => rfl)
