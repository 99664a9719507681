set_option maxHeartbeats 1000000 in
theorem sd_iconst {p : Program} {l : Launch} {e : Env} {R : Room} {s : State} {m : MethodId} {args : Array Value} {below : List Frame} {meth : Method} {c : Code} {H : Heap} {locs : List Loc} {Q : State → Prop} {A : Nat → Prop} {xs : List Int32} {sv : Value} {ao ad : Nat → Nat} {Z : ClassId × ClassId × ClassId} {D : va_G} {f : MInfo} {nL pc pc2 c0 s0 : Nat} {ls ls2 : ML} {st st2 : List Value} {a a2 : MA} {h h2 : MH} {ls' : Array Slot} {len x y : Nat} {cc : Int} {v : Int} (C : Cx p R s m args meth c A xs sv ao Z D f nL) (hdec : decode f.2.2.1 pc = .ok (.iconst v, len)) (hl : len = 1) (hlk : LKb f (.iconst v, len, x, y, cc) = true) (ha : mact (.iconst v, len, x, y, cc) pc ls st a h = some (.inl (pc2, ls2, st2, a2, h2))) (hR : Rp s A xs sv ao Z D nL ad a.1 h H locs ls' ls st) (hc : a2.2.1 - c0 ≤ R.cells) (hs : a2.2.2 - s0 ≤ R.slots) (hc0 : c0 ≤ a.2.1) (hs0 : s0 ≤ a.2.2) (kk : ∀ (ad' : Nat → Nat) (H' : Heap) (locs' : List Loc) (ls'' : Array Slot), Rp s A xs sv ao Z D nL ad' a2.1 h2 H' locs' ls'' ls2 st2 → (∀ k, k < a.1 → ad' k = ad k) → W p l e R s m args below meth c H' locs' (a2.2.1 - c0) (a2.2.2 - s0) Q (F0 m pc2 ls'' (st2.map (tv sv ad')))) : W p l e R s m args below meth c H locs (a.2.1 - c0) (a.2.2 - s0) Q (F0 m pc ls' (st.map (tv sv ad))) := by
  subst hl
  obtain ⟨hx, hb, hml, hown, hts, hK, hA, hO, hin0, hfr, hlo, hsv⟩ := C
  obtain ⟨hP, hD, hS, hI, hL, hT, hlr, hao, hnl⟩ := hR
  cases ha
  exact lv_iconst hx hb hdec rfl (kk ad H locs ls' ⟨hP, hD, hS, hI, hL, (sin_c trivial hT), hlr, hao, hnl⟩ (fun _ _ => rfl))
set_option maxHeartbeats 1000000 in
theorem sd_bipush {p : Program} {l : Launch} {e : Env} {R : Room} {s : State} {m : MethodId} {args : Array Value} {below : List Frame} {meth : Method} {c : Code} {H : Heap} {locs : List Loc} {Q : State → Prop} {A : Nat → Prop} {xs : List Int32} {sv : Value} {ao ad : Nat → Nat} {Z : ClassId × ClassId × ClassId} {D : va_G} {f : MInfo} {nL pc pc2 c0 s0 : Nat} {ls ls2 : ML} {st st2 : List Value} {a a2 : MA} {h h2 : MH} {ls' : Array Slot} {len x y : Nat} {cc : Int} {v : Int} (C : Cx p R s m args meth c A xs sv ao Z D f nL) (hdec : decode f.2.2.1 pc = .ok (.bipush v, len)) (hl : len = 2) (hlk : LKb f (.bipush v, len, x, y, cc) = true) (ha : mact (.bipush v, len, x, y, cc) pc ls st a h = some (.inl (pc2, ls2, st2, a2, h2))) (hR : Rp s A xs sv ao Z D nL ad a.1 h H locs ls' ls st) (hc : a2.2.1 - c0 ≤ R.cells) (hs : a2.2.2 - s0 ≤ R.slots) (hc0 : c0 ≤ a.2.1) (hs0 : s0 ≤ a.2.2) (kk : ∀ (ad' : Nat → Nat) (H' : Heap) (locs' : List Loc) (ls'' : Array Slot), Rp s A xs sv ao Z D nL ad' a2.1 h2 H' locs' ls'' ls2 st2 → (∀ k, k < a.1 → ad' k = ad k) → W p l e R s m args below meth c H' locs' (a2.2.1 - c0) (a2.2.2 - s0) Q (F0 m pc2 ls'' (st2.map (tv sv ad')))) : W p l e R s m args below meth c H locs (a.2.1 - c0) (a.2.2 - s0) Q (F0 m pc ls' (st.map (tv sv ad))) := by
  subst hl
  obtain ⟨hx, hb, hml, hown, hts, hK, hA, hO, hin0, hfr, hlo, hsv⟩ := C
  obtain ⟨hP, hD, hS, hI, hL, hT, hlr, hao, hnl⟩ := hR
  cases ha
  exact lv_bipush hx hb hdec rfl (kk ad H locs ls' ⟨hP, hD, hS, hI, hL, (sin_c trivial hT), hlr, hao, hnl⟩ (fun _ _ => rfl))
set_option maxHeartbeats 1000000 in
theorem sd_sipush {p : Program} {l : Launch} {e : Env} {R : Room} {s : State} {m : MethodId} {args : Array Value} {below : List Frame} {meth : Method} {c : Code} {H : Heap} {locs : List Loc} {Q : State → Prop} {A : Nat → Prop} {xs : List Int32} {sv : Value} {ao ad : Nat → Nat} {Z : ClassId × ClassId × ClassId} {D : va_G} {f : MInfo} {nL pc pc2 c0 s0 : Nat} {ls ls2 : ML} {st st2 : List Value} {a a2 : MA} {h h2 : MH} {ls' : Array Slot} {len x y : Nat} {cc : Int} {v : Int} (C : Cx p R s m args meth c A xs sv ao Z D f nL) (hdec : decode f.2.2.1 pc = .ok (.sipush v, len)) (hl : len = 3) (hlk : LKb f (.sipush v, len, x, y, cc) = true) (ha : mact (.sipush v, len, x, y, cc) pc ls st a h = some (.inl (pc2, ls2, st2, a2, h2))) (hR : Rp s A xs sv ao Z D nL ad a.1 h H locs ls' ls st) (hc : a2.2.1 - c0 ≤ R.cells) (hs : a2.2.2 - s0 ≤ R.slots) (hc0 : c0 ≤ a.2.1) (hs0 : s0 ≤ a.2.2) (kk : ∀ (ad' : Nat → Nat) (H' : Heap) (locs' : List Loc) (ls'' : Array Slot), Rp s A xs sv ao Z D nL ad' a2.1 h2 H' locs' ls'' ls2 st2 → (∀ k, k < a.1 → ad' k = ad k) → W p l e R s m args below meth c H' locs' (a2.2.1 - c0) (a2.2.2 - s0) Q (F0 m pc2 ls'' (st2.map (tv sv ad')))) : W p l e R s m args below meth c H locs (a.2.1 - c0) (a.2.2 - s0) Q (F0 m pc ls' (st.map (tv sv ad))) := by
  subst hl
  obtain ⟨hx, hb, hml, hown, hts, hK, hA, hO, hin0, hfr, hlo, hsv⟩ := C
  obtain ⟨hP, hD, hS, hI, hL, hT, hlr, hao, hnl⟩ := hR
  cases ha
  exact lv_sipush hx hb hdec rfl (kk ad H locs ls' ⟨hP, hD, hS, hI, hL, (sin_c trivial hT), hlr, hao, hnl⟩ (fun _ _ => rfl))
set_option maxHeartbeats 1000000 in
theorem sd_lconst {p : Program} {l : Launch} {e : Env} {R : Room} {s : State} {m : MethodId} {args : Array Value} {below : List Frame} {meth : Method} {c : Code} {H : Heap} {locs : List Loc} {Q : State → Prop} {A : Nat → Prop} {xs : List Int32} {sv : Value} {ao ad : Nat → Nat} {Z : ClassId × ClassId × ClassId} {D : va_G} {f : MInfo} {nL pc pc2 c0 s0 : Nat} {ls ls2 : ML} {st st2 : List Value} {a a2 : MA} {h h2 : MH} {ls' : Array Slot} {len x y : Nat} {cc : Int} {v : Fin 2} (C : Cx p R s m args meth c A xs sv ao Z D f nL) (hdec : decode f.2.2.1 pc = .ok (.lconst v, len)) (hl : len = 1) (hlk : LKb f (.lconst v, len, x, y, cc) = true) (ha : mact (.lconst v, len, x, y, cc) pc ls st a h = some (.inl (pc2, ls2, st2, a2, h2))) (hR : Rp s A xs sv ao Z D nL ad a.1 h H locs ls' ls st) (hc : a2.2.1 - c0 ≤ R.cells) (hs : a2.2.2 - s0 ≤ R.slots) (hc0 : c0 ≤ a.2.1) (hs0 : s0 ≤ a.2.2) (kk : ∀ (ad' : Nat → Nat) (H' : Heap) (locs' : List Loc) (ls'' : Array Slot), Rp s A xs sv ao Z D nL ad' a2.1 h2 H' locs' ls'' ls2 st2 → (∀ k, k < a.1 → ad' k = ad k) → W p l e R s m args below meth c H' locs' (a2.2.1 - c0) (a2.2.2 - s0) Q (F0 m pc2 ls'' (st2.map (tv sv ad')))) : W p l e R s m args below meth c H locs (a.2.1 - c0) (a.2.2 - s0) Q (F0 m pc ls' (st.map (tv sv ad))) := by
  subst hl
  obtain ⟨hx, hb, hml, hown, hts, hK, hA, hO, hin0, hfr, hlo, hsv⟩ := C
  obtain ⟨hP, hD, hS, hI, hL, hT, hlr, hao, hnl⟩ := hR
  cases ha
  exact lv_lconst hx hb hdec rfl (kk ad H locs ls' ⟨hP, hD, hS, hI, hL, (sin_c trivial hT), hlr, hao, hnl⟩ (fun _ _ => rfl))
set_option maxHeartbeats 1000000 in
theorem sd_aconst_null {p : Program} {l : Launch} {e : Env} {R : Room} {s : State} {m : MethodId} {args : Array Value} {below : List Frame} {meth : Method} {c : Code} {H : Heap} {locs : List Loc} {Q : State → Prop} {A : Nat → Prop} {xs : List Int32} {sv : Value} {ao ad : Nat → Nat} {Z : ClassId × ClassId × ClassId} {D : va_G} {f : MInfo} {nL pc pc2 c0 s0 : Nat} {ls ls2 : ML} {st st2 : List Value} {a a2 : MA} {h h2 : MH} {ls' : Array Slot} {len x y : Nat} {cc : Int}  (C : Cx p R s m args meth c A xs sv ao Z D f nL) (hdec : decode f.2.2.1 pc = .ok (.aconst_null, len)) (hl : len = 1) (hlk : LKb f (.aconst_null, len, x, y, cc) = true) (ha : mact (.aconst_null, len, x, y, cc) pc ls st a h = some (.inl (pc2, ls2, st2, a2, h2))) (hR : Rp s A xs sv ao Z D nL ad a.1 h H locs ls' ls st) (hc : a2.2.1 - c0 ≤ R.cells) (hs : a2.2.2 - s0 ≤ R.slots) (hc0 : c0 ≤ a.2.1) (hs0 : s0 ≤ a.2.2) (kk : ∀ (ad' : Nat → Nat) (H' : Heap) (locs' : List Loc) (ls'' : Array Slot), Rp s A xs sv ao Z D nL ad' a2.1 h2 H' locs' ls'' ls2 st2 → (∀ k, k < a.1 → ad' k = ad k) → W p l e R s m args below meth c H' locs' (a2.2.1 - c0) (a2.2.2 - s0) Q (F0 m pc2 ls'' (st2.map (tv sv ad')))) : W p l e R s m args below meth c H locs (a.2.1 - c0) (a.2.2 - s0) Q (F0 m pc ls' (st.map (tv sv ad))) := by
  subst hl
  obtain ⟨hx, hb, hml, hown, hts, hK, hA, hO, hin0, hfr, hlo, hsv⟩ := C
  obtain ⟨hP, hD, hS, hI, hL, hT, hlr, hao, hnl⟩ := hR
  cases ha
  exact lv_null hx hb hdec (kk ad H locs ls' ⟨hP, hD, hS, hI, hL, (sin_c trivial hT), hlr, hao, hnl⟩ (fun _ _ => rfl))
set_option maxHeartbeats 1000000 in
theorem sd_iload {p : Program} {l : Launch} {e : Env} {R : Room} {s : State} {m : MethodId} {args : Array Value} {below : List Frame} {meth : Method} {c : Code} {H : Heap} {locs : List Loc} {Q : State → Prop} {A : Nat → Prop} {xs : List Int32} {sv : Value} {ao ad : Nat → Nat} {Z : ClassId × ClassId × ClassId} {D : va_G} {f : MInfo} {nL pc pc2 c0 s0 : Nat} {ls ls2 : ML} {st st2 : List Value} {a a2 : MA} {h h2 : MH} {ls' : Array Slot} {len x y : Nat} {cc : Int} {k : Nat} (C : Cx p R s m args meth c A xs sv ao Z D f nL) (hdec : decode f.2.2.1 pc = .ok (.iload k, len)) (hl : len = 2) (hlk : LKb f (.iload k, len, x, y, cc) = true) (ha : mact (.iload k, len, x, y, cc) pc ls st a h = some (.inl (pc2, ls2, st2, a2, h2))) (hR : Rp s A xs sv ao Z D nL ad a.1 h H locs ls' ls st) (hc : a2.2.1 - c0 ≤ R.cells) (hs : a2.2.2 - s0 ≤ R.slots) (hc0 : c0 ≤ a.2.1) (hs0 : s0 ≤ a.2.2) (kk : ∀ (ad' : Nat → Nat) (H' : Heap) (locs' : List Loc) (ls'' : Array Slot), Rp s A xs sv ao Z D nL ad' a2.1 h2 H' locs' ls'' ls2 st2 → (∀ k, k < a.1 → ad' k = ad k) → W p l e R s m args below meth c H' locs' (a2.2.1 - c0) (a2.2.2 - s0) Q (F0 m pc2 ls'' (st2.map (tv sv ad')))) : W p l e R s m args below meth c H locs (a.2.1 - c0) (a.2.2 - s0) Q (F0 m pc ls' (st.map (tv sv ad))) := by
  subst hl
  obtain ⟨hx, hb, hml, hown, hts, hK, hA, hO, hin0, hfr, hlo, hsv⟩ := C
  obtain ⟨hP, hD, hS, hI, hL, hT, hlr, hao, hnl⟩ := hR
  obtain ⟨v, hg, ha⟩ := m_oi ha
  cases ha
  exact lv_iload hx hb hdec (lrep_get hlr hg) (kk ad H locs ls' ⟨hP, hD, hS, hI, hL, (sin_c trivial hT), hlr, hao, hnl⟩ (fun _ _ => rfl))
set_option maxHeartbeats 1000000 in
theorem sd_iload_n {p : Program} {l : Launch} {e : Env} {R : Room} {s : State} {m : MethodId} {args : Array Value} {below : List Frame} {meth : Method} {c : Code} {H : Heap} {locs : List Loc} {Q : State → Prop} {A : Nat → Prop} {xs : List Int32} {sv : Value} {ao ad : Nat → Nat} {Z : ClassId × ClassId × ClassId} {D : va_G} {f : MInfo} {nL pc pc2 c0 s0 : Nat} {ls ls2 : ML} {st st2 : List Value} {a a2 : MA} {h h2 : MH} {ls' : Array Slot} {len x y : Nat} {cc : Int} {k : Fin 4} (C : Cx p R s m args meth c A xs sv ao Z D f nL) (hdec : decode f.2.2.1 pc = .ok (.iload_n k, len)) (hl : len = 1) (hlk : LKb f (.iload_n k, len, x, y, cc) = true) (ha : mact (.iload_n k, len, x, y, cc) pc ls st a h = some (.inl (pc2, ls2, st2, a2, h2))) (hR : Rp s A xs sv ao Z D nL ad a.1 h H locs ls' ls st) (hc : a2.2.1 - c0 ≤ R.cells) (hs : a2.2.2 - s0 ≤ R.slots) (hc0 : c0 ≤ a.2.1) (hs0 : s0 ≤ a.2.2) (kk : ∀ (ad' : Nat → Nat) (H' : Heap) (locs' : List Loc) (ls'' : Array Slot), Rp s A xs sv ao Z D nL ad' a2.1 h2 H' locs' ls'' ls2 st2 → (∀ k, k < a.1 → ad' k = ad k) → W p l e R s m args below meth c H' locs' (a2.2.1 - c0) (a2.2.2 - s0) Q (F0 m pc2 ls'' (st2.map (tv sv ad')))) : W p l e R s m args below meth c H locs (a.2.1 - c0) (a.2.2 - s0) Q (F0 m pc ls' (st.map (tv sv ad))) := by
  subst hl
  obtain ⟨hx, hb, hml, hown, hts, hK, hA, hO, hin0, hfr, hlo, hsv⟩ := C
  obtain ⟨hP, hD, hS, hI, hL, hT, hlr, hao, hnl⟩ := hR
  obtain ⟨v, hg, ha⟩ := m_oi ha
  cases ha
  exact lv_iload_n hx hb hdec rfl (lrep_get hlr hg) (kk ad H locs ls' ⟨hP, hD, hS, hI, hL, (sin_c trivial hT), hlr, hao, hnl⟩ (fun _ _ => rfl))
set_option maxHeartbeats 1000000 in
theorem sd_lload {p : Program} {l : Launch} {e : Env} {R : Room} {s : State} {m : MethodId} {args : Array Value} {below : List Frame} {meth : Method} {c : Code} {H : Heap} {locs : List Loc} {Q : State → Prop} {A : Nat → Prop} {xs : List Int32} {sv : Value} {ao ad : Nat → Nat} {Z : ClassId × ClassId × ClassId} {D : va_G} {f : MInfo} {nL pc pc2 c0 s0 : Nat} {ls ls2 : ML} {st st2 : List Value} {a a2 : MA} {h h2 : MH} {ls' : Array Slot} {len x y : Nat} {cc : Int} {k : Nat} (C : Cx p R s m args meth c A xs sv ao Z D f nL) (hdec : decode f.2.2.1 pc = .ok (.lload k, len)) (hl : len = 2) (hlk : LKb f (.lload k, len, x, y, cc) = true) (ha : mact (.lload k, len, x, y, cc) pc ls st a h = some (.inl (pc2, ls2, st2, a2, h2))) (hR : Rp s A xs sv ao Z D nL ad a.1 h H locs ls' ls st) (hc : a2.2.1 - c0 ≤ R.cells) (hs : a2.2.2 - s0 ≤ R.slots) (hc0 : c0 ≤ a.2.1) (hs0 : s0 ≤ a.2.2) (kk : ∀ (ad' : Nat → Nat) (H' : Heap) (locs' : List Loc) (ls'' : Array Slot), Rp s A xs sv ao Z D nL ad' a2.1 h2 H' locs' ls'' ls2 st2 → (∀ k, k < a.1 → ad' k = ad k) → W p l e R s m args below meth c H' locs' (a2.2.1 - c0) (a2.2.2 - s0) Q (F0 m pc2 ls'' (st2.map (tv sv ad')))) : W p l e R s m args below meth c H locs (a.2.1 - c0) (a.2.2 - s0) Q (F0 m pc ls' (st.map (tv sv ad))) := by
  subst hl
  obtain ⟨hx, hb, hml, hown, hts, hK, hA, hO, hin0, hfr, hlo, hsv⟩ := C
  obtain ⟨hP, hD, hS, hI, hL, hT, hlr, hao, hnl⟩ := hR
  obtain ⟨v, hg, ha⟩ := m_ol ha
  cases ha
  exact lv_lload hx hb hdec (lrep_get hlr hg) (kk ad H locs ls' ⟨hP, hD, hS, hI, hL, (sin_c trivial hT), hlr, hao, hnl⟩ (fun _ _ => rfl))
set_option maxHeartbeats 1000000 in
theorem sd_lload_n {p : Program} {l : Launch} {e : Env} {R : Room} {s : State} {m : MethodId} {args : Array Value} {below : List Frame} {meth : Method} {c : Code} {H : Heap} {locs : List Loc} {Q : State → Prop} {A : Nat → Prop} {xs : List Int32} {sv : Value} {ao ad : Nat → Nat} {Z : ClassId × ClassId × ClassId} {D : va_G} {f : MInfo} {nL pc pc2 c0 s0 : Nat} {ls ls2 : ML} {st st2 : List Value} {a a2 : MA} {h h2 : MH} {ls' : Array Slot} {len x y : Nat} {cc : Int} {k : Fin 4} (C : Cx p R s m args meth c A xs sv ao Z D f nL) (hdec : decode f.2.2.1 pc = .ok (.lload_n k, len)) (hl : len = 1) (hlk : LKb f (.lload_n k, len, x, y, cc) = true) (ha : mact (.lload_n k, len, x, y, cc) pc ls st a h = some (.inl (pc2, ls2, st2, a2, h2))) (hR : Rp s A xs sv ao Z D nL ad a.1 h H locs ls' ls st) (hc : a2.2.1 - c0 ≤ R.cells) (hs : a2.2.2 - s0 ≤ R.slots) (hc0 : c0 ≤ a.2.1) (hs0 : s0 ≤ a.2.2) (kk : ∀ (ad' : Nat → Nat) (H' : Heap) (locs' : List Loc) (ls'' : Array Slot), Rp s A xs sv ao Z D nL ad' a2.1 h2 H' locs' ls'' ls2 st2 → (∀ k, k < a.1 → ad' k = ad k) → W p l e R s m args below meth c H' locs' (a2.2.1 - c0) (a2.2.2 - s0) Q (F0 m pc2 ls'' (st2.map (tv sv ad')))) : W p l e R s m args below meth c H locs (a.2.1 - c0) (a.2.2 - s0) Q (F0 m pc ls' (st.map (tv sv ad))) := by
  subst hl
  obtain ⟨hx, hb, hml, hown, hts, hK, hA, hO, hin0, hfr, hlo, hsv⟩ := C
  obtain ⟨hP, hD, hS, hI, hL, hT, hlr, hao, hnl⟩ := hR
  obtain ⟨v, hg, ha⟩ := m_ol ha
  cases ha
  exact lv_lload_n hx hb hdec rfl (lrep_get hlr hg) (kk ad H locs ls' ⟨hP, hD, hS, hI, hL, (sin_c trivial hT), hlr, hao, hnl⟩ (fun _ _ => rfl))
set_option maxHeartbeats 1000000 in
theorem sd_aload {p : Program} {l : Launch} {e : Env} {R : Room} {s : State} {m : MethodId} {args : Array Value} {below : List Frame} {meth : Method} {c : Code} {H : Heap} {locs : List Loc} {Q : State → Prop} {A : Nat → Prop} {xs : List Int32} {sv : Value} {ao ad : Nat → Nat} {Z : ClassId × ClassId × ClassId} {D : va_G} {f : MInfo} {nL pc pc2 c0 s0 : Nat} {ls ls2 : ML} {st st2 : List Value} {a a2 : MA} {h h2 : MH} {ls' : Array Slot} {len x y : Nat} {cc : Int} {k : Nat} (C : Cx p R s m args meth c A xs sv ao Z D f nL) (hdec : decode f.2.2.1 pc = .ok (.aload k, len)) (hl : len = 2) (hlk : LKb f (.aload k, len, x, y, cc) = true) (ha : mact (.aload k, len, x, y, cc) pc ls st a h = some (.inl (pc2, ls2, st2, a2, h2))) (hR : Rp s A xs sv ao Z D nL ad a.1 h H locs ls' ls st) (hc : a2.2.1 - c0 ≤ R.cells) (hs : a2.2.2 - s0 ≤ R.slots) (hc0 : c0 ≤ a.2.1) (hs0 : s0 ≤ a.2.2) (kk : ∀ (ad' : Nat → Nat) (H' : Heap) (locs' : List Loc) (ls'' : Array Slot), Rp s A xs sv ao Z D nL ad' a2.1 h2 H' locs' ls'' ls2 st2 → (∀ k, k < a.1 → ad' k = ad k) → W p l e R s m args below meth c H' locs' (a2.2.1 - c0) (a2.2.2 - s0) Q (F0 m pc2 ls'' (st2.map (tv sv ad')))) : W p l e R s m args below meth c H locs (a.2.1 - c0) (a.2.2 - s0) Q (F0 m pc ls' (st.map (tv sv ad))) := by
  subst hl
  obtain ⟨hx, hb, hml, hown, hts, hK, hA, hO, hin0, hfr, hlo, hsv⟩ := C
  obtain ⟨hP, hD, hS, hI, hL, hT, hlr, hao, hnl⟩ := hR
  rcases m_or ha with ⟨v, hg, ha⟩ | ⟨hg, ha⟩
  · cases ha
    exact lv_aload hx hb hdec (lrep_get hlr hg) (kk ad H locs ls' ⟨hP, hD, hS, hI, hL, (sin_c (lin_get hL hg) hT), hlr, hao, hnl⟩ (fun _ _ => rfl))
  · cases ha
    exact lv_aloadN hx hb hdec (lrep_get hlr hg) (kk ad H locs ls' ⟨hP, hD, hS, hI, hL, (sin_c trivial hT), hlr, hao, hnl⟩ (fun _ _ => rfl))
set_option maxHeartbeats 1000000 in
theorem sd_aload_n {p : Program} {l : Launch} {e : Env} {R : Room} {s : State} {m : MethodId} {args : Array Value} {below : List Frame} {meth : Method} {c : Code} {H : Heap} {locs : List Loc} {Q : State → Prop} {A : Nat → Prop} {xs : List Int32} {sv : Value} {ao ad : Nat → Nat} {Z : ClassId × ClassId × ClassId} {D : va_G} {f : MInfo} {nL pc pc2 c0 s0 : Nat} {ls ls2 : ML} {st st2 : List Value} {a a2 : MA} {h h2 : MH} {ls' : Array Slot} {len x y : Nat} {cc : Int} {k : Fin 4} (C : Cx p R s m args meth c A xs sv ao Z D f nL) (hdec : decode f.2.2.1 pc = .ok (.aload_n k, len)) (hl : len = 1) (hlk : LKb f (.aload_n k, len, x, y, cc) = true) (ha : mact (.aload_n k, len, x, y, cc) pc ls st a h = some (.inl (pc2, ls2, st2, a2, h2))) (hR : Rp s A xs sv ao Z D nL ad a.1 h H locs ls' ls st) (hc : a2.2.1 - c0 ≤ R.cells) (hs : a2.2.2 - s0 ≤ R.slots) (hc0 : c0 ≤ a.2.1) (hs0 : s0 ≤ a.2.2) (kk : ∀ (ad' : Nat → Nat) (H' : Heap) (locs' : List Loc) (ls'' : Array Slot), Rp s A xs sv ao Z D nL ad' a2.1 h2 H' locs' ls'' ls2 st2 → (∀ k, k < a.1 → ad' k = ad k) → W p l e R s m args below meth c H' locs' (a2.2.1 - c0) (a2.2.2 - s0) Q (F0 m pc2 ls'' (st2.map (tv sv ad')))) : W p l e R s m args below meth c H locs (a.2.1 - c0) (a.2.2 - s0) Q (F0 m pc ls' (st.map (tv sv ad))) := by
  subst hl
  obtain ⟨hx, hb, hml, hown, hts, hK, hA, hO, hin0, hfr, hlo, hsv⟩ := C
  obtain ⟨hP, hD, hS, hI, hL, hT, hlr, hao, hnl⟩ := hR
  rcases m_or ha with ⟨v, hg, ha⟩ | ⟨hg, ha⟩
  · cases ha
    exact lv_aload_n hx hb hdec rfl (lrep_get hlr hg) (kk ad H locs ls' ⟨hP, hD, hS, hI, hL, (sin_c (lin_get hL hg) hT), hlr, hao, hnl⟩ (fun _ _ => rfl))
  · cases ha
    exact lv_aload_nN hx hb hdec rfl (lrep_get hlr hg) (kk ad H locs ls' ⟨hP, hD, hS, hI, hL, (sin_c trivial hT), hlr, hao, hnl⟩ (fun _ _ => rfl))
set_option maxHeartbeats 1000000 in
theorem sd_istore {p : Program} {l : Launch} {e : Env} {R : Room} {s : State} {m : MethodId} {args : Array Value} {below : List Frame} {meth : Method} {c : Code} {H : Heap} {locs : List Loc} {Q : State → Prop} {A : Nat → Prop} {xs : List Int32} {sv : Value} {ao ad : Nat → Nat} {Z : ClassId × ClassId × ClassId} {D : va_G} {f : MInfo} {nL pc pc2 c0 s0 : Nat} {ls ls2 : ML} {st st2 : List Value} {a a2 : MA} {h h2 : MH} {ls' : Array Slot} {len x y : Nat} {cc : Int} {k : Nat} (C : Cx p R s m args meth c A xs sv ao Z D f nL) (hdec : decode f.2.2.1 pc = .ok (.istore k, len)) (hl : len = 2) (hlk : LKb f (.istore k, len, x, y, cc) = true) (ha : mact (.istore k, len, x, y, cc) pc ls st a h = some (.inl (pc2, ls2, st2, a2, h2))) (hR : Rp s A xs sv ao Z D nL ad a.1 h H locs ls' ls st) (hc : a2.2.1 - c0 ≤ R.cells) (hs : a2.2.2 - s0 ≤ R.slots) (hc0 : c0 ≤ a.2.1) (hs0 : s0 ≤ a.2.2) (kk : ∀ (ad' : Nat → Nat) (H' : Heap) (locs' : List Loc) (ls'' : Array Slot), Rp s A xs sv ao Z D nL ad' a2.1 h2 H' locs' ls'' ls2 st2 → (∀ k, k < a.1 → ad' k = ad k) → W p l e R s m args below meth c H' locs' (a2.2.1 - c0) (a2.2.2 - s0) Q (F0 m pc2 ls'' (st2.map (tv sv ad')))) : W p l e R s m args below meth c H locs (a.2.1 - c0) (a.2.2 - s0) Q (F0 m pc ls' (st.map (tv sv ad))) := by
  subst hl
  obtain ⟨hx, hb, hml, hown, hts, hK, hA, hO, hin0, hfr, hlo, hsv⟩ := C
  obtain ⟨hP, hD, hS, hI, hL, hT, hlr, hao, hnl⟩ := hR
  obtain ⟨v, r, rfl, ha⟩ := m_i ha
  have ha := (show (match mst1 ls k (.int v) with | some ls' => nx (pc + 2) ls' r a h | none => none) = some _ from ha)
  obtain ⟨l2, hm, ha⟩ := m_oL (o := mst1 ls k (.int v)) (F := fun ls' => nx (pc + 2) ls' r a h) ha
  cases ha
  obtain ⟨hk, hlen, hmem, rfl⟩ := lp_st1 (g := tv sv ad) (tv_catf hsv) hm
  exact lv_istore hx hb hdec hlr hk rfl (fun ls1 hl1 => kk ad H locs ls1 ⟨hP, hD, hS, hI, lin_set hL clo_int, (sin_tl hT), lv_mono (by rw [hlen]; exact hl1) hmem, hao, hlen.trans hnl⟩ (fun _ _ => rfl))
set_option maxHeartbeats 1000000 in
theorem sd_istore_n {p : Program} {l : Launch} {e : Env} {R : Room} {s : State} {m : MethodId} {args : Array Value} {below : List Frame} {meth : Method} {c : Code} {H : Heap} {locs : List Loc} {Q : State → Prop} {A : Nat → Prop} {xs : List Int32} {sv : Value} {ao ad : Nat → Nat} {Z : ClassId × ClassId × ClassId} {D : va_G} {f : MInfo} {nL pc pc2 c0 s0 : Nat} {ls ls2 : ML} {st st2 : List Value} {a a2 : MA} {h h2 : MH} {ls' : Array Slot} {len x y : Nat} {cc : Int} {k : Fin 4} (C : Cx p R s m args meth c A xs sv ao Z D f nL) (hdec : decode f.2.2.1 pc = .ok (.istore_n k, len)) (hl : len = 1) (hlk : LKb f (.istore_n k, len, x, y, cc) = true) (ha : mact (.istore_n k, len, x, y, cc) pc ls st a h = some (.inl (pc2, ls2, st2, a2, h2))) (hR : Rp s A xs sv ao Z D nL ad a.1 h H locs ls' ls st) (hc : a2.2.1 - c0 ≤ R.cells) (hs : a2.2.2 - s0 ≤ R.slots) (hc0 : c0 ≤ a.2.1) (hs0 : s0 ≤ a.2.2) (kk : ∀ (ad' : Nat → Nat) (H' : Heap) (locs' : List Loc) (ls'' : Array Slot), Rp s A xs sv ao Z D nL ad' a2.1 h2 H' locs' ls'' ls2 st2 → (∀ k, k < a.1 → ad' k = ad k) → W p l e R s m args below meth c H' locs' (a2.2.1 - c0) (a2.2.2 - s0) Q (F0 m pc2 ls'' (st2.map (tv sv ad')))) : W p l e R s m args below meth c H locs (a.2.1 - c0) (a.2.2 - s0) Q (F0 m pc ls' (st.map (tv sv ad))) := by
  subst hl
  obtain ⟨hx, hb, hml, hown, hts, hK, hA, hO, hin0, hfr, hlo, hsv⟩ := C
  obtain ⟨hP, hD, hS, hI, hL, hT, hlr, hao, hnl⟩ := hR
  obtain ⟨v, r, rfl, ha⟩ := m_i ha
  have ha := (show (match mst1 ls k (.int v) with | some ls' => nx (pc + 1) ls' r a h | none => none) = some _ from ha)
  obtain ⟨l2, hm, ha⟩ := m_oL (o := mst1 ls k (.int v)) (F := fun ls' => nx (pc + 1) ls' r a h) ha
  cases ha
  obtain ⟨hk, hlen, hmem, rfl⟩ := lp_st1 (g := tv sv ad) (tv_catf hsv) hm
  exact lv_istore_n hx hb hdec rfl hlr hk rfl (fun ls1 hl1 => kk ad H locs ls1 ⟨hP, hD, hS, hI, lin_set hL clo_int, (sin_tl hT), lv_mono (by rw [hlen]; exact hl1) hmem, hao, hlen.trans hnl⟩ (fun _ _ => rfl))
set_option maxHeartbeats 1000000 in
theorem sd_astore {p : Program} {l : Launch} {e : Env} {R : Room} {s : State} {m : MethodId} {args : Array Value} {below : List Frame} {meth : Method} {c : Code} {H : Heap} {locs : List Loc} {Q : State → Prop} {A : Nat → Prop} {xs : List Int32} {sv : Value} {ao ad : Nat → Nat} {Z : ClassId × ClassId × ClassId} {D : va_G} {f : MInfo} {nL pc pc2 c0 s0 : Nat} {ls ls2 : ML} {st st2 : List Value} {a a2 : MA} {h h2 : MH} {ls' : Array Slot} {len x y : Nat} {cc : Int} {k : Nat} (C : Cx p R s m args meth c A xs sv ao Z D f nL) (hdec : decode f.2.2.1 pc = .ok (.astore k, len)) (hl : len = 2) (hlk : LKb f (.astore k, len, x, y, cc) = true) (ha : mact (.astore k, len, x, y, cc) pc ls st a h = some (.inl (pc2, ls2, st2, a2, h2))) (hR : Rp s A xs sv ao Z D nL ad a.1 h H locs ls' ls st) (hc : a2.2.1 - c0 ≤ R.cells) (hs : a2.2.2 - s0 ≤ R.slots) (hc0 : c0 ≤ a.2.1) (hs0 : s0 ≤ a.2.2) (kk : ∀ (ad' : Nat → Nat) (H' : Heap) (locs' : List Loc) (ls'' : Array Slot), Rp s A xs sv ao Z D nL ad' a2.1 h2 H' locs' ls'' ls2 st2 → (∀ k, k < a.1 → ad' k = ad k) → W p l e R s m args below meth c H' locs' (a2.2.1 - c0) (a2.2.2 - s0) Q (F0 m pc2 ls'' (st2.map (tv sv ad')))) : W p l e R s m args below meth c H locs (a.2.1 - c0) (a.2.2 - s0) Q (F0 m pc ls' (st.map (tv sv ad))) := by
  subst hl
  obtain ⟨hx, hb, hml, hown, hts, hK, hA, hO, hin0, hfr, hlo, hsv⟩ := C
  obtain ⟨hP, hD, hS, hI, hL, hT, hlr, hao, hnl⟩ := hR
  rcases m_rn ha with ⟨r, rfl, ha⟩ | ⟨v, r, rfl, ha⟩
  · have ha := (show (match mst1 ls k .null with | some ls' => nx (pc + 2) ls' r a h | none => none) = some _ from ha)
    obtain ⟨l2, hm, ha⟩ := m_oL (o := mst1 ls k .null) (F := fun ls' => nx (pc + 2) ls' r a h) ha
    cases ha
    obtain ⟨hk, hlen, hmem, rfl⟩ := lp_st1 (g := tv sv ad) (tv_catf hsv) hm
    exact lv_astoreN hx hb hdec hlr hk rfl (fun ls1 hl1 => kk ad H locs ls1 ⟨hP, hD, hS, hI, lin_set hL clo_null, (sin_tl hT), lv_mono (by rw [hlen]; exact hl1) hmem, hao, hlen.trans hnl⟩ (fun _ _ => rfl))
  · have ha := (show (match mst1 ls k (.ref v) with | some ls' => nx (pc + 2) ls' r a h | none => none) = some _ from ha)
    obtain ⟨l2, hm, ha⟩ := m_oL (o := mst1 ls k (.ref v)) (F := fun ls' => nx (pc + 2) ls' r a h) ha
    cases ha
    obtain ⟨hk, hlen, hmem, rfl⟩ := lp_st1 (g := tv sv ad) (tv_catf hsv) hm
    exact lv_astore hx hb hdec hlr hk rfl (fun ls1 hl1 => kk ad H locs ls1 ⟨hP, hD, hS, hI, lin_set hL (sin_hd hT), (sin_tl hT), lv_mono (by rw [hlen]; exact hl1) hmem, hao, hlen.trans hnl⟩ (fun _ _ => rfl))
set_option maxHeartbeats 1000000 in
theorem sd_astore_n {p : Program} {l : Launch} {e : Env} {R : Room} {s : State} {m : MethodId} {args : Array Value} {below : List Frame} {meth : Method} {c : Code} {H : Heap} {locs : List Loc} {Q : State → Prop} {A : Nat → Prop} {xs : List Int32} {sv : Value} {ao ad : Nat → Nat} {Z : ClassId × ClassId × ClassId} {D : va_G} {f : MInfo} {nL pc pc2 c0 s0 : Nat} {ls ls2 : ML} {st st2 : List Value} {a a2 : MA} {h h2 : MH} {ls' : Array Slot} {len x y : Nat} {cc : Int} {k : Fin 4} (C : Cx p R s m args meth c A xs sv ao Z D f nL) (hdec : decode f.2.2.1 pc = .ok (.astore_n k, len)) (hl : len = 1) (hlk : LKb f (.astore_n k, len, x, y, cc) = true) (ha : mact (.astore_n k, len, x, y, cc) pc ls st a h = some (.inl (pc2, ls2, st2, a2, h2))) (hR : Rp s A xs sv ao Z D nL ad a.1 h H locs ls' ls st) (hc : a2.2.1 - c0 ≤ R.cells) (hs : a2.2.2 - s0 ≤ R.slots) (hc0 : c0 ≤ a.2.1) (hs0 : s0 ≤ a.2.2) (kk : ∀ (ad' : Nat → Nat) (H' : Heap) (locs' : List Loc) (ls'' : Array Slot), Rp s A xs sv ao Z D nL ad' a2.1 h2 H' locs' ls'' ls2 st2 → (∀ k, k < a.1 → ad' k = ad k) → W p l e R s m args below meth c H' locs' (a2.2.1 - c0) (a2.2.2 - s0) Q (F0 m pc2 ls'' (st2.map (tv sv ad')))) : W p l e R s m args below meth c H locs (a.2.1 - c0) (a.2.2 - s0) Q (F0 m pc ls' (st.map (tv sv ad))) := by
  subst hl
  obtain ⟨hx, hb, hml, hown, hts, hK, hA, hO, hin0, hfr, hlo, hsv⟩ := C
  obtain ⟨hP, hD, hS, hI, hL, hT, hlr, hao, hnl⟩ := hR
  rcases m_rn ha with ⟨r, rfl, ha⟩ | ⟨v, r, rfl, ha⟩
  · have ha := (show (match mst1 ls k .null with | some ls' => nx (pc + 1) ls' r a h | none => none) = some _ from ha)
    obtain ⟨l2, hm, ha⟩ := m_oL (o := mst1 ls k .null) (F := fun ls' => nx (pc + 1) ls' r a h) ha
    cases ha
    obtain ⟨hk, hlen, hmem, rfl⟩ := lp_st1 (g := tv sv ad) (tv_catf hsv) hm
    exact lv_astore_nN hx hb hdec rfl hlr hk rfl (fun ls1 hl1 => kk ad H locs ls1 ⟨hP, hD, hS, hI, lin_set hL clo_null, (sin_tl hT), lv_mono (by rw [hlen]; exact hl1) hmem, hao, hlen.trans hnl⟩ (fun _ _ => rfl))
  · have ha := (show (match mst1 ls k (.ref v) with | some ls' => nx (pc + 1) ls' r a h | none => none) = some _ from ha)
    obtain ⟨l2, hm, ha⟩ := m_oL (o := mst1 ls k (.ref v)) (F := fun ls' => nx (pc + 1) ls' r a h) ha
    cases ha
    obtain ⟨hk, hlen, hmem, rfl⟩ := lp_st1 (g := tv sv ad) (tv_catf hsv) hm
    exact lv_astore_n hx hb hdec rfl hlr hk rfl (fun ls1 hl1 => kk ad H locs ls1 ⟨hP, hD, hS, hI, lin_set hL (sin_hd hT), (sin_tl hT), lv_mono (by rw [hlen]; exact hl1) hmem, hao, hlen.trans hnl⟩ (fun _ _ => rfl))
set_option maxHeartbeats 1000000 in
theorem sd_lstore {p : Program} {l : Launch} {e : Env} {R : Room} {s : State} {m : MethodId} {args : Array Value} {below : List Frame} {meth : Method} {c : Code} {H : Heap} {locs : List Loc} {Q : State → Prop} {A : Nat → Prop} {xs : List Int32} {sv : Value} {ao ad : Nat → Nat} {Z : ClassId × ClassId × ClassId} {D : va_G} {f : MInfo} {nL pc pc2 c0 s0 : Nat} {ls ls2 : ML} {st st2 : List Value} {a a2 : MA} {h h2 : MH} {ls' : Array Slot} {len x y : Nat} {cc : Int} {k : Nat} (C : Cx p R s m args meth c A xs sv ao Z D f nL) (hdec : decode f.2.2.1 pc = .ok (.lstore k, len)) (hl : len = 2) (hlk : LKb f (.lstore k, len, x, y, cc) = true) (ha : mact (.lstore k, len, x, y, cc) pc ls st a h = some (.inl (pc2, ls2, st2, a2, h2))) (hR : Rp s A xs sv ao Z D nL ad a.1 h H locs ls' ls st) (hc : a2.2.1 - c0 ≤ R.cells) (hs : a2.2.2 - s0 ≤ R.slots) (hc0 : c0 ≤ a.2.1) (hs0 : s0 ≤ a.2.2) (kk : ∀ (ad' : Nat → Nat) (H' : Heap) (locs' : List Loc) (ls'' : Array Slot), Rp s A xs sv ao Z D nL ad' a2.1 h2 H' locs' ls'' ls2 st2 → (∀ k, k < a.1 → ad' k = ad k) → W p l e R s m args below meth c H' locs' (a2.2.1 - c0) (a2.2.2 - s0) Q (F0 m pc2 ls'' (st2.map (tv sv ad')))) : W p l e R s m args below meth c H locs (a.2.1 - c0) (a.2.2 - s0) Q (F0 m pc ls' (st.map (tv sv ad))) := by
  subst hl
  obtain ⟨hx, hb, hml, hown, hts, hK, hA, hO, hin0, hfr, hlo, hsv⟩ := C
  obtain ⟨hP, hD, hS, hI, hL, hT, hlr, hao, hnl⟩ := hR
  obtain ⟨v, r, rfl, ha⟩ := m_l ha
  have ha := (show (match mst2 ls k (.long v) with | some ls' => nx (pc + 2) ls' r a h | none => none) = some _ from ha)
  obtain ⟨l2, hm, ha⟩ := m_oL (o := mst2 ls k (.long v)) (F := fun ls' => nx (pc + 2) ls' r a h) ha
  cases ha
  obtain ⟨hk, hlen, hmem, rfl⟩ := lp_st2 (g := tv sv ad) (tv_catf hsv) hm
  exact lv_lstore hx hb hdec hlr hk rfl (fun ls1 hl1 => kk ad H locs ls1 ⟨hP, hD, hS, hI, lin_set0 (lin_set hL clo_long), sin_tl hT, lv_mono (by rw [hlen]; exact hl1) hmem, hao, hlen.trans hnl⟩ (fun _ _ => rfl))
set_option maxHeartbeats 1000000 in
theorem sd_lstore_n {p : Program} {l : Launch} {e : Env} {R : Room} {s : State} {m : MethodId} {args : Array Value} {below : List Frame} {meth : Method} {c : Code} {H : Heap} {locs : List Loc} {Q : State → Prop} {A : Nat → Prop} {xs : List Int32} {sv : Value} {ao ad : Nat → Nat} {Z : ClassId × ClassId × ClassId} {D : va_G} {f : MInfo} {nL pc pc2 c0 s0 : Nat} {ls ls2 : ML} {st st2 : List Value} {a a2 : MA} {h h2 : MH} {ls' : Array Slot} {len x y : Nat} {cc : Int} {k : Fin 4} (C : Cx p R s m args meth c A xs sv ao Z D f nL) (hdec : decode f.2.2.1 pc = .ok (.lstore_n k, len)) (hl : len = 1) (hlk : LKb f (.lstore_n k, len, x, y, cc) = true) (ha : mact (.lstore_n k, len, x, y, cc) pc ls st a h = some (.inl (pc2, ls2, st2, a2, h2))) (hR : Rp s A xs sv ao Z D nL ad a.1 h H locs ls' ls st) (hc : a2.2.1 - c0 ≤ R.cells) (hs : a2.2.2 - s0 ≤ R.slots) (hc0 : c0 ≤ a.2.1) (hs0 : s0 ≤ a.2.2) (kk : ∀ (ad' : Nat → Nat) (H' : Heap) (locs' : List Loc) (ls'' : Array Slot), Rp s A xs sv ao Z D nL ad' a2.1 h2 H' locs' ls'' ls2 st2 → (∀ k, k < a.1 → ad' k = ad k) → W p l e R s m args below meth c H' locs' (a2.2.1 - c0) (a2.2.2 - s0) Q (F0 m pc2 ls'' (st2.map (tv sv ad')))) : W p l e R s m args below meth c H locs (a.2.1 - c0) (a.2.2 - s0) Q (F0 m pc ls' (st.map (tv sv ad))) := by
  subst hl
  obtain ⟨hx, hb, hml, hown, hts, hK, hA, hO, hin0, hfr, hlo, hsv⟩ := C
  obtain ⟨hP, hD, hS, hI, hL, hT, hlr, hao, hnl⟩ := hR
  obtain ⟨v, r, rfl, ha⟩ := m_l ha
  have ha := (show (match mst2 ls k (.long v) with | some ls' => nx (pc + 1) ls' r a h | none => none) = some _ from ha)
  obtain ⟨l2, hm, ha⟩ := m_oL (o := mst2 ls k (.long v)) (F := fun ls' => nx (pc + 1) ls' r a h) ha
  cases ha
  obtain ⟨hk, hlen, hmem, rfl⟩ := lp_st2 (g := tv sv ad) (tv_catf hsv) hm
  exact lv_lstore_n hx hb hdec rfl hlr hk rfl (fun ls1 hl1 => kk ad H locs ls1 ⟨hP, hD, hS, hI, lin_set0 (lin_set hL clo_long), sin_tl hT, lv_mono (by rw [hlen]; exact hl1) hmem, hao, hlen.trans hnl⟩ (fun _ _ => rfl))
set_option maxHeartbeats 1000000 in
theorem sd_iinc {p : Program} {l : Launch} {e : Env} {R : Room} {s : State} {m : MethodId} {args : Array Value} {below : List Frame} {meth : Method} {c : Code} {H : Heap} {locs : List Loc} {Q : State → Prop} {A : Nat → Prop} {xs : List Int32} {sv : Value} {ao ad : Nat → Nat} {Z : ClassId × ClassId × ClassId} {D : va_G} {f : MInfo} {nL pc pc2 c0 s0 : Nat} {ls ls2 : ML} {st st2 : List Value} {a a2 : MA} {h h2 : MH} {ls' : Array Slot} {len x y : Nat} {cc : Int} {k : Nat} {d : Int} (C : Cx p R s m args meth c A xs sv ao Z D f nL) (hdec : decode f.2.2.1 pc = .ok (.iinc k d, len)) (hl : len = 3) (hlk : LKb f (.iinc k d, len, x, y, cc) = true) (ha : mact (.iinc k d, len, x, y, cc) pc ls st a h = some (.inl (pc2, ls2, st2, a2, h2))) (hR : Rp s A xs sv ao Z D nL ad a.1 h H locs ls' ls st) (hc : a2.2.1 - c0 ≤ R.cells) (hs : a2.2.2 - s0 ≤ R.slots) (hc0 : c0 ≤ a.2.1) (hs0 : s0 ≤ a.2.2) (kk : ∀ (ad' : Nat → Nat) (H' : Heap) (locs' : List Loc) (ls'' : Array Slot), Rp s A xs sv ao Z D nL ad' a2.1 h2 H' locs' ls'' ls2 st2 → (∀ k, k < a.1 → ad' k = ad k) → W p l e R s m args below meth c H' locs' (a2.2.1 - c0) (a2.2.2 - s0) Q (F0 m pc2 ls'' (st2.map (tv sv ad')))) : W p l e R s m args below meth c H locs (a.2.1 - c0) (a.2.2 - s0) Q (F0 m pc ls' (st.map (tv sv ad))) := by
  subst hl
  obtain ⟨hx, hb, hml, hown, hts, hK, hA, hO, hin0, hfr, hlo, hsv⟩ := C
  obtain ⟨hP, hD, hS, hI, hL, hT, hlr, hao, hnl⟩ := hR
  obtain ⟨v, hg, ha⟩ := m_oi ha
  have ha := (show (match mst1 ls k (.int (v + Int32.ofInt d)) with | some ls' => nx (pc + 3) ls' st a h | none => none) = some _ from ha)
  obtain ⟨l2, hm, ha⟩ := m_oL (o := mst1 ls k (.int (v + Int32.ofInt d))) (F := fun ls' => nx (pc + 3) ls' st a h) ha
  cases ha
  obtain ⟨hk, hlen, hmem, rfl⟩ := lp_st1 (g := tv sv ad) (tv_catf hsv) hm
  have hg2 : ls[k]? = some (some (.int v)) := by
    unfold mget at hg
    split at hg
    · rename_i u e; cases hg; exact e
    · cases hg
  obtain ⟨j, hj⟩ := List.getElem?_of_mem (lp_mem (g := tv sv ad) (i := 0).mpr ⟨k, _, (Nat.zero_add k).symm, hg2, rfl⟩)
  exact lv_iinc hx hb hdec hlr hj rfl hk rfl (fun ls1 hl1 => kk ad H locs ls1 ⟨hP, hD, hS, hI, lin_set hL clo_int, hT, lv_mono (by rw [hlen]; exact hl1) hmem, hao, hlen.trans hnl⟩ (fun _ _ => rfl))
set_option maxHeartbeats 1000000 in
theorem sd_iadd {p : Program} {l : Launch} {e : Env} {R : Room} {s : State} {m : MethodId} {args : Array Value} {below : List Frame} {meth : Method} {c : Code} {H : Heap} {locs : List Loc} {Q : State → Prop} {A : Nat → Prop} {xs : List Int32} {sv : Value} {ao ad : Nat → Nat} {Z : ClassId × ClassId × ClassId} {D : va_G} {f : MInfo} {nL pc pc2 c0 s0 : Nat} {ls ls2 : ML} {st st2 : List Value} {a a2 : MA} {h h2 : MH} {ls' : Array Slot} {len x y : Nat} {cc : Int}  (C : Cx p R s m args meth c A xs sv ao Z D f nL) (hdec : decode f.2.2.1 pc = .ok (.iadd, len)) (hl : len = 1) (hlk : LKb f (.iadd, len, x, y, cc) = true) (ha : mact (.iadd, len, x, y, cc) pc ls st a h = some (.inl (pc2, ls2, st2, a2, h2))) (hR : Rp s A xs sv ao Z D nL ad a.1 h H locs ls' ls st) (hc : a2.2.1 - c0 ≤ R.cells) (hs : a2.2.2 - s0 ≤ R.slots) (hc0 : c0 ≤ a.2.1) (hs0 : s0 ≤ a.2.2) (kk : ∀ (ad' : Nat → Nat) (H' : Heap) (locs' : List Loc) (ls'' : Array Slot), Rp s A xs sv ao Z D nL ad' a2.1 h2 H' locs' ls'' ls2 st2 → (∀ k, k < a.1 → ad' k = ad k) → W p l e R s m args below meth c H' locs' (a2.2.1 - c0) (a2.2.2 - s0) Q (F0 m pc2 ls'' (st2.map (tv sv ad')))) : W p l e R s m args below meth c H locs (a.2.1 - c0) (a.2.2 - s0) Q (F0 m pc ls' (st.map (tv sv ad))) := by
  subst hl
  obtain ⟨hx, hb, hml, hown, hts, hK, hA, hO, hin0, hfr, hlo, hsv⟩ := C
  obtain ⟨hP, hD, hS, hI, hL, hT, hlr, hao, hnl⟩ := hR
  obtain ⟨v, u, r, rfl, ha⟩ := m_ii ha
  cases ha
  exact lv_iadd hx hb hdec (kk ad H locs ls' ⟨hP, hD, hS, hI, hL, (sin_c trivial (sin_tl (sin_tl hT))), hlr, hao, hnl⟩ (fun _ _ => rfl))
set_option maxHeartbeats 1000000 in
theorem sd_isub {p : Program} {l : Launch} {e : Env} {R : Room} {s : State} {m : MethodId} {args : Array Value} {below : List Frame} {meth : Method} {c : Code} {H : Heap} {locs : List Loc} {Q : State → Prop} {A : Nat → Prop} {xs : List Int32} {sv : Value} {ao ad : Nat → Nat} {Z : ClassId × ClassId × ClassId} {D : va_G} {f : MInfo} {nL pc pc2 c0 s0 : Nat} {ls ls2 : ML} {st st2 : List Value} {a a2 : MA} {h h2 : MH} {ls' : Array Slot} {len x y : Nat} {cc : Int}  (C : Cx p R s m args meth c A xs sv ao Z D f nL) (hdec : decode f.2.2.1 pc = .ok (.isub, len)) (hl : len = 1) (hlk : LKb f (.isub, len, x, y, cc) = true) (ha : mact (.isub, len, x, y, cc) pc ls st a h = some (.inl (pc2, ls2, st2, a2, h2))) (hR : Rp s A xs sv ao Z D nL ad a.1 h H locs ls' ls st) (hc : a2.2.1 - c0 ≤ R.cells) (hs : a2.2.2 - s0 ≤ R.slots) (hc0 : c0 ≤ a.2.1) (hs0 : s0 ≤ a.2.2) (kk : ∀ (ad' : Nat → Nat) (H' : Heap) (locs' : List Loc) (ls'' : Array Slot), Rp s A xs sv ao Z D nL ad' a2.1 h2 H' locs' ls'' ls2 st2 → (∀ k, k < a.1 → ad' k = ad k) → W p l e R s m args below meth c H' locs' (a2.2.1 - c0) (a2.2.2 - s0) Q (F0 m pc2 ls'' (st2.map (tv sv ad')))) : W p l e R s m args below meth c H locs (a.2.1 - c0) (a.2.2 - s0) Q (F0 m pc ls' (st.map (tv sv ad))) := by
  subst hl
  obtain ⟨hx, hb, hml, hown, hts, hK, hA, hO, hin0, hfr, hlo, hsv⟩ := C
  obtain ⟨hP, hD, hS, hI, hL, hT, hlr, hao, hnl⟩ := hR
  obtain ⟨v, u, r, rfl, ha⟩ := m_ii ha
  cases ha
  exact lv_isub hx hb hdec (kk ad H locs ls' ⟨hP, hD, hS, hI, hL, (sin_c trivial (sin_tl (sin_tl hT))), hlr, hao, hnl⟩ (fun _ _ => rfl))
set_option maxHeartbeats 1000000 in
theorem sd_imul {p : Program} {l : Launch} {e : Env} {R : Room} {s : State} {m : MethodId} {args : Array Value} {below : List Frame} {meth : Method} {c : Code} {H : Heap} {locs : List Loc} {Q : State → Prop} {A : Nat → Prop} {xs : List Int32} {sv : Value} {ao ad : Nat → Nat} {Z : ClassId × ClassId × ClassId} {D : va_G} {f : MInfo} {nL pc pc2 c0 s0 : Nat} {ls ls2 : ML} {st st2 : List Value} {a a2 : MA} {h h2 : MH} {ls' : Array Slot} {len x y : Nat} {cc : Int}  (C : Cx p R s m args meth c A xs sv ao Z D f nL) (hdec : decode f.2.2.1 pc = .ok (.imul, len)) (hl : len = 1) (hlk : LKb f (.imul, len, x, y, cc) = true) (ha : mact (.imul, len, x, y, cc) pc ls st a h = some (.inl (pc2, ls2, st2, a2, h2))) (hR : Rp s A xs sv ao Z D nL ad a.1 h H locs ls' ls st) (hc : a2.2.1 - c0 ≤ R.cells) (hs : a2.2.2 - s0 ≤ R.slots) (hc0 : c0 ≤ a.2.1) (hs0 : s0 ≤ a.2.2) (kk : ∀ (ad' : Nat → Nat) (H' : Heap) (locs' : List Loc) (ls'' : Array Slot), Rp s A xs sv ao Z D nL ad' a2.1 h2 H' locs' ls'' ls2 st2 → (∀ k, k < a.1 → ad' k = ad k) → W p l e R s m args below meth c H' locs' (a2.2.1 - c0) (a2.2.2 - s0) Q (F0 m pc2 ls'' (st2.map (tv sv ad')))) : W p l e R s m args below meth c H locs (a.2.1 - c0) (a.2.2 - s0) Q (F0 m pc ls' (st.map (tv sv ad))) := by
  subst hl
  obtain ⟨hx, hb, hml, hown, hts, hK, hA, hO, hin0, hfr, hlo, hsv⟩ := C
  obtain ⟨hP, hD, hS, hI, hL, hT, hlr, hao, hnl⟩ := hR
  obtain ⟨v, u, r, rfl, ha⟩ := m_ii ha
  cases ha
  exact lv_imul hx hb hdec (kk ad H locs ls' ⟨hP, hD, hS, hI, hL, (sin_c trivial (sin_tl (sin_tl hT))), hlr, hao, hnl⟩ (fun _ _ => rfl))
set_option maxHeartbeats 1000000 in
theorem sd_iand {p : Program} {l : Launch} {e : Env} {R : Room} {s : State} {m : MethodId} {args : Array Value} {below : List Frame} {meth : Method} {c : Code} {H : Heap} {locs : List Loc} {Q : State → Prop} {A : Nat → Prop} {xs : List Int32} {sv : Value} {ao ad : Nat → Nat} {Z : ClassId × ClassId × ClassId} {D : va_G} {f : MInfo} {nL pc pc2 c0 s0 : Nat} {ls ls2 : ML} {st st2 : List Value} {a a2 : MA} {h h2 : MH} {ls' : Array Slot} {len x y : Nat} {cc : Int}  (C : Cx p R s m args meth c A xs sv ao Z D f nL) (hdec : decode f.2.2.1 pc = .ok (.iand, len)) (hl : len = 1) (hlk : LKb f (.iand, len, x, y, cc) = true) (ha : mact (.iand, len, x, y, cc) pc ls st a h = some (.inl (pc2, ls2, st2, a2, h2))) (hR : Rp s A xs sv ao Z D nL ad a.1 h H locs ls' ls st) (hc : a2.2.1 - c0 ≤ R.cells) (hs : a2.2.2 - s0 ≤ R.slots) (hc0 : c0 ≤ a.2.1) (hs0 : s0 ≤ a.2.2) (kk : ∀ (ad' : Nat → Nat) (H' : Heap) (locs' : List Loc) (ls'' : Array Slot), Rp s A xs sv ao Z D nL ad' a2.1 h2 H' locs' ls'' ls2 st2 → (∀ k, k < a.1 → ad' k = ad k) → W p l e R s m args below meth c H' locs' (a2.2.1 - c0) (a2.2.2 - s0) Q (F0 m pc2 ls'' (st2.map (tv sv ad')))) : W p l e R s m args below meth c H locs (a.2.1 - c0) (a.2.2 - s0) Q (F0 m pc ls' (st.map (tv sv ad))) := by
  subst hl
  obtain ⟨hx, hb, hml, hown, hts, hK, hA, hO, hin0, hfr, hlo, hsv⟩ := C
  obtain ⟨hP, hD, hS, hI, hL, hT, hlr, hao, hnl⟩ := hR
  obtain ⟨v, u, r, rfl, ha⟩ := m_ii ha
  cases ha
  exact lv_iand hx hb hdec (kk ad H locs ls' ⟨hP, hD, hS, hI, hL, (sin_c trivial (sin_tl (sin_tl hT))), hlr, hao, hnl⟩ (fun _ _ => rfl))
set_option maxHeartbeats 1000000 in
theorem sd_ior {p : Program} {l : Launch} {e : Env} {R : Room} {s : State} {m : MethodId} {args : Array Value} {below : List Frame} {meth : Method} {c : Code} {H : Heap} {locs : List Loc} {Q : State → Prop} {A : Nat → Prop} {xs : List Int32} {sv : Value} {ao ad : Nat → Nat} {Z : ClassId × ClassId × ClassId} {D : va_G} {f : MInfo} {nL pc pc2 c0 s0 : Nat} {ls ls2 : ML} {st st2 : List Value} {a a2 : MA} {h h2 : MH} {ls' : Array Slot} {len x y : Nat} {cc : Int}  (C : Cx p R s m args meth c A xs sv ao Z D f nL) (hdec : decode f.2.2.1 pc = .ok (.ior, len)) (hl : len = 1) (hlk : LKb f (.ior, len, x, y, cc) = true) (ha : mact (.ior, len, x, y, cc) pc ls st a h = some (.inl (pc2, ls2, st2, a2, h2))) (hR : Rp s A xs sv ao Z D nL ad a.1 h H locs ls' ls st) (hc : a2.2.1 - c0 ≤ R.cells) (hs : a2.2.2 - s0 ≤ R.slots) (hc0 : c0 ≤ a.2.1) (hs0 : s0 ≤ a.2.2) (kk : ∀ (ad' : Nat → Nat) (H' : Heap) (locs' : List Loc) (ls'' : Array Slot), Rp s A xs sv ao Z D nL ad' a2.1 h2 H' locs' ls'' ls2 st2 → (∀ k, k < a.1 → ad' k = ad k) → W p l e R s m args below meth c H' locs' (a2.2.1 - c0) (a2.2.2 - s0) Q (F0 m pc2 ls'' (st2.map (tv sv ad')))) : W p l e R s m args below meth c H locs (a.2.1 - c0) (a.2.2 - s0) Q (F0 m pc ls' (st.map (tv sv ad))) := by
  subst hl
  obtain ⟨hx, hb, hml, hown, hts, hK, hA, hO, hin0, hfr, hlo, hsv⟩ := C
  obtain ⟨hP, hD, hS, hI, hL, hT, hlr, hao, hnl⟩ := hR
  obtain ⟨v, u, r, rfl, ha⟩ := m_ii ha
  cases ha
  exact lv_ior hx hb hdec (kk ad H locs ls' ⟨hP, hD, hS, hI, hL, (sin_c trivial (sin_tl (sin_tl hT))), hlr, hao, hnl⟩ (fun _ _ => rfl))
set_option maxHeartbeats 1000000 in
theorem sd_ishl {p : Program} {l : Launch} {e : Env} {R : Room} {s : State} {m : MethodId} {args : Array Value} {below : List Frame} {meth : Method} {c : Code} {H : Heap} {locs : List Loc} {Q : State → Prop} {A : Nat → Prop} {xs : List Int32} {sv : Value} {ao ad : Nat → Nat} {Z : ClassId × ClassId × ClassId} {D : va_G} {f : MInfo} {nL pc pc2 c0 s0 : Nat} {ls ls2 : ML} {st st2 : List Value} {a a2 : MA} {h h2 : MH} {ls' : Array Slot} {len x y : Nat} {cc : Int}  (C : Cx p R s m args meth c A xs sv ao Z D f nL) (hdec : decode f.2.2.1 pc = .ok (.ishl, len)) (hl : len = 1) (hlk : LKb f (.ishl, len, x, y, cc) = true) (ha : mact (.ishl, len, x, y, cc) pc ls st a h = some (.inl (pc2, ls2, st2, a2, h2))) (hR : Rp s A xs sv ao Z D nL ad a.1 h H locs ls' ls st) (hc : a2.2.1 - c0 ≤ R.cells) (hs : a2.2.2 - s0 ≤ R.slots) (hc0 : c0 ≤ a.2.1) (hs0 : s0 ≤ a.2.2) (kk : ∀ (ad' : Nat → Nat) (H' : Heap) (locs' : List Loc) (ls'' : Array Slot), Rp s A xs sv ao Z D nL ad' a2.1 h2 H' locs' ls'' ls2 st2 → (∀ k, k < a.1 → ad' k = ad k) → W p l e R s m args below meth c H' locs' (a2.2.1 - c0) (a2.2.2 - s0) Q (F0 m pc2 ls'' (st2.map (tv sv ad')))) : W p l e R s m args below meth c H locs (a.2.1 - c0) (a.2.2 - s0) Q (F0 m pc ls' (st.map (tv sv ad))) := by
  subst hl
  obtain ⟨hx, hb, hml, hown, hts, hK, hA, hO, hin0, hfr, hlo, hsv⟩ := C
  obtain ⟨hP, hD, hS, hI, hL, hT, hlr, hao, hnl⟩ := hR
  obtain ⟨v, u, r, rfl, ha⟩ := m_ii ha
  cases ha
  exact lv_ishl hx hb hdec (kk ad H locs ls' ⟨hP, hD, hS, hI, hL, (sin_c trivial (sin_tl (sin_tl hT))), hlr, hao, hnl⟩ (fun _ _ => rfl))
set_option maxHeartbeats 1000000 in
theorem sd_ishr {p : Program} {l : Launch} {e : Env} {R : Room} {s : State} {m : MethodId} {args : Array Value} {below : List Frame} {meth : Method} {c : Code} {H : Heap} {locs : List Loc} {Q : State → Prop} {A : Nat → Prop} {xs : List Int32} {sv : Value} {ao ad : Nat → Nat} {Z : ClassId × ClassId × ClassId} {D : va_G} {f : MInfo} {nL pc pc2 c0 s0 : Nat} {ls ls2 : ML} {st st2 : List Value} {a a2 : MA} {h h2 : MH} {ls' : Array Slot} {len x y : Nat} {cc : Int}  (C : Cx p R s m args meth c A xs sv ao Z D f nL) (hdec : decode f.2.2.1 pc = .ok (.ishr, len)) (hl : len = 1) (hlk : LKb f (.ishr, len, x, y, cc) = true) (ha : mact (.ishr, len, x, y, cc) pc ls st a h = some (.inl (pc2, ls2, st2, a2, h2))) (hR : Rp s A xs sv ao Z D nL ad a.1 h H locs ls' ls st) (hc : a2.2.1 - c0 ≤ R.cells) (hs : a2.2.2 - s0 ≤ R.slots) (hc0 : c0 ≤ a.2.1) (hs0 : s0 ≤ a.2.2) (kk : ∀ (ad' : Nat → Nat) (H' : Heap) (locs' : List Loc) (ls'' : Array Slot), Rp s A xs sv ao Z D nL ad' a2.1 h2 H' locs' ls'' ls2 st2 → (∀ k, k < a.1 → ad' k = ad k) → W p l e R s m args below meth c H' locs' (a2.2.1 - c0) (a2.2.2 - s0) Q (F0 m pc2 ls'' (st2.map (tv sv ad')))) : W p l e R s m args below meth c H locs (a.2.1 - c0) (a.2.2 - s0) Q (F0 m pc ls' (st.map (tv sv ad))) := by
  subst hl
  obtain ⟨hx, hb, hml, hown, hts, hK, hA, hO, hin0, hfr, hlo, hsv⟩ := C
  obtain ⟨hP, hD, hS, hI, hL, hT, hlr, hao, hnl⟩ := hR
  obtain ⟨v, u, r, rfl, ha⟩ := m_ii ha
  cases ha
  exact lv_ishr hx hb hdec (kk ad H locs ls' ⟨hP, hD, hS, hI, hL, (sin_c trivial (sin_tl (sin_tl hT))), hlr, hao, hnl⟩ (fun _ _ => rfl))
set_option maxHeartbeats 1000000 in
theorem sd_iushr {p : Program} {l : Launch} {e : Env} {R : Room} {s : State} {m : MethodId} {args : Array Value} {below : List Frame} {meth : Method} {c : Code} {H : Heap} {locs : List Loc} {Q : State → Prop} {A : Nat → Prop} {xs : List Int32} {sv : Value} {ao ad : Nat → Nat} {Z : ClassId × ClassId × ClassId} {D : va_G} {f : MInfo} {nL pc pc2 c0 s0 : Nat} {ls ls2 : ML} {st st2 : List Value} {a a2 : MA} {h h2 : MH} {ls' : Array Slot} {len x y : Nat} {cc : Int}  (C : Cx p R s m args meth c A xs sv ao Z D f nL) (hdec : decode f.2.2.1 pc = .ok (.iushr, len)) (hl : len = 1) (hlk : LKb f (.iushr, len, x, y, cc) = true) (ha : mact (.iushr, len, x, y, cc) pc ls st a h = some (.inl (pc2, ls2, st2, a2, h2))) (hR : Rp s A xs sv ao Z D nL ad a.1 h H locs ls' ls st) (hc : a2.2.1 - c0 ≤ R.cells) (hs : a2.2.2 - s0 ≤ R.slots) (hc0 : c0 ≤ a.2.1) (hs0 : s0 ≤ a.2.2) (kk : ∀ (ad' : Nat → Nat) (H' : Heap) (locs' : List Loc) (ls'' : Array Slot), Rp s A xs sv ao Z D nL ad' a2.1 h2 H' locs' ls'' ls2 st2 → (∀ k, k < a.1 → ad' k = ad k) → W p l e R s m args below meth c H' locs' (a2.2.1 - c0) (a2.2.2 - s0) Q (F0 m pc2 ls'' (st2.map (tv sv ad')))) : W p l e R s m args below meth c H locs (a.2.1 - c0) (a.2.2 - s0) Q (F0 m pc ls' (st.map (tv sv ad))) := by
  subst hl
  obtain ⟨hx, hb, hml, hown, hts, hK, hA, hO, hin0, hfr, hlo, hsv⟩ := C
  obtain ⟨hP, hD, hS, hI, hL, hT, hlr, hao, hnl⟩ := hR
  obtain ⟨v, u, r, rfl, ha⟩ := m_ii ha
  cases ha
  exact lv_iushr hx hb hdec rfl (kk ad H locs ls' ⟨hP, hD, hS, hI, hL, (sin_c trivial (sin_tl (sin_tl hT))), hlr, hao, hnl⟩ (fun _ _ => rfl))
set_option maxHeartbeats 1000000 in
theorem sd_idiv {p : Program} {l : Launch} {e : Env} {R : Room} {s : State} {m : MethodId} {args : Array Value} {below : List Frame} {meth : Method} {c : Code} {H : Heap} {locs : List Loc} {Q : State → Prop} {A : Nat → Prop} {xs : List Int32} {sv : Value} {ao ad : Nat → Nat} {Z : ClassId × ClassId × ClassId} {D : va_G} {f : MInfo} {nL pc pc2 c0 s0 : Nat} {ls ls2 : ML} {st st2 : List Value} {a a2 : MA} {h h2 : MH} {ls' : Array Slot} {len x y : Nat} {cc : Int}  (C : Cx p R s m args meth c A xs sv ao Z D f nL) (hdec : decode f.2.2.1 pc = .ok (.idiv, len)) (hl : len = 1) (hlk : LKb f (.idiv, len, x, y, cc) = true) (ha : mact (.idiv, len, x, y, cc) pc ls st a h = some (.inl (pc2, ls2, st2, a2, h2))) (hR : Rp s A xs sv ao Z D nL ad a.1 h H locs ls' ls st) (hc : a2.2.1 - c0 ≤ R.cells) (hs : a2.2.2 - s0 ≤ R.slots) (hc0 : c0 ≤ a.2.1) (hs0 : s0 ≤ a.2.2) (kk : ∀ (ad' : Nat → Nat) (H' : Heap) (locs' : List Loc) (ls'' : Array Slot), Rp s A xs sv ao Z D nL ad' a2.1 h2 H' locs' ls'' ls2 st2 → (∀ k, k < a.1 → ad' k = ad k) → W p l e R s m args below meth c H' locs' (a2.2.1 - c0) (a2.2.2 - s0) Q (F0 m pc2 ls'' (st2.map (tv sv ad')))) : W p l e R s m args below meth c H locs (a.2.1 - c0) (a.2.2 - s0) Q (F0 m pc ls' (st.map (tv sv ad))) := by
  subst hl
  obtain ⟨hx, hb, hml, hown, hts, hK, hA, hO, hin0, hfr, hlo, hsv⟩ := C
  obtain ⟨hP, hD, hS, hI, hL, hT, hlr, hao, hnl⟩ := hR
  obtain ⟨v, u, r, rfl, ha⟩ := m_ii ha
  have ha := (show (if v = 0 then none else nx (pc + 1) ls (.int (u / v) :: r) a h) = some _ from ha)
  obtain ⟨h0, ha⟩ := m_ifn ha
  cases ha
  skip
  exact lv_idiv hx hb hdec h0 (kk ad H locs ls' ⟨hP, hD, hS, hI, hL, (sin_c trivial (sin_tl (sin_tl hT))), hlr, hao, hnl⟩ (fun _ _ => rfl))
set_option maxHeartbeats 1000000 in
theorem sd_irem {p : Program} {l : Launch} {e : Env} {R : Room} {s : State} {m : MethodId} {args : Array Value} {below : List Frame} {meth : Method} {c : Code} {H : Heap} {locs : List Loc} {Q : State → Prop} {A : Nat → Prop} {xs : List Int32} {sv : Value} {ao ad : Nat → Nat} {Z : ClassId × ClassId × ClassId} {D : va_G} {f : MInfo} {nL pc pc2 c0 s0 : Nat} {ls ls2 : ML} {st st2 : List Value} {a a2 : MA} {h h2 : MH} {ls' : Array Slot} {len x y : Nat} {cc : Int}  (C : Cx p R s m args meth c A xs sv ao Z D f nL) (hdec : decode f.2.2.1 pc = .ok (.irem, len)) (hl : len = 1) (hlk : LKb f (.irem, len, x, y, cc) = true) (ha : mact (.irem, len, x, y, cc) pc ls st a h = some (.inl (pc2, ls2, st2, a2, h2))) (hR : Rp s A xs sv ao Z D nL ad a.1 h H locs ls' ls st) (hc : a2.2.1 - c0 ≤ R.cells) (hs : a2.2.2 - s0 ≤ R.slots) (hc0 : c0 ≤ a.2.1) (hs0 : s0 ≤ a.2.2) (kk : ∀ (ad' : Nat → Nat) (H' : Heap) (locs' : List Loc) (ls'' : Array Slot), Rp s A xs sv ao Z D nL ad' a2.1 h2 H' locs' ls'' ls2 st2 → (∀ k, k < a.1 → ad' k = ad k) → W p l e R s m args below meth c H' locs' (a2.2.1 - c0) (a2.2.2 - s0) Q (F0 m pc2 ls'' (st2.map (tv sv ad')))) : W p l e R s m args below meth c H locs (a.2.1 - c0) (a.2.2 - s0) Q (F0 m pc ls' (st.map (tv sv ad))) := by
  subst hl
  obtain ⟨hx, hb, hml, hown, hts, hK, hA, hO, hin0, hfr, hlo, hsv⟩ := C
  obtain ⟨hP, hD, hS, hI, hL, hT, hlr, hao, hnl⟩ := hR
  obtain ⟨v, u, r, rfl, ha⟩ := m_ii ha
  have ha := (show (if v = 0 then none else nx (pc + 1) ls (.int (u % v) :: r) a h) = some _ from ha)
  obtain ⟨h0, ha⟩ := m_ifn ha
  cases ha
  rw [irem_eq] at kk
  exact lv_irem hx hb hdec h0 (kk ad H locs ls' ⟨hP, hD, hS, hI, hL, (sin_c trivial (sin_tl (sin_tl hT))), hlr, hao, hnl⟩ (fun _ _ => rfl))
set_option maxHeartbeats 1000000 in
theorem sd_lmul {p : Program} {l : Launch} {e : Env} {R : Room} {s : State} {m : MethodId} {args : Array Value} {below : List Frame} {meth : Method} {c : Code} {H : Heap} {locs : List Loc} {Q : State → Prop} {A : Nat → Prop} {xs : List Int32} {sv : Value} {ao ad : Nat → Nat} {Z : ClassId × ClassId × ClassId} {D : va_G} {f : MInfo} {nL pc pc2 c0 s0 : Nat} {ls ls2 : ML} {st st2 : List Value} {a a2 : MA} {h h2 : MH} {ls' : Array Slot} {len x y : Nat} {cc : Int}  (C : Cx p R s m args meth c A xs sv ao Z D f nL) (hdec : decode f.2.2.1 pc = .ok (.lmul, len)) (hl : len = 1) (hlk : LKb f (.lmul, len, x, y, cc) = true) (ha : mact (.lmul, len, x, y, cc) pc ls st a h = some (.inl (pc2, ls2, st2, a2, h2))) (hR : Rp s A xs sv ao Z D nL ad a.1 h H locs ls' ls st) (hc : a2.2.1 - c0 ≤ R.cells) (hs : a2.2.2 - s0 ≤ R.slots) (hc0 : c0 ≤ a.2.1) (hs0 : s0 ≤ a.2.2) (kk : ∀ (ad' : Nat → Nat) (H' : Heap) (locs' : List Loc) (ls'' : Array Slot), Rp s A xs sv ao Z D nL ad' a2.1 h2 H' locs' ls'' ls2 st2 → (∀ k, k < a.1 → ad' k = ad k) → W p l e R s m args below meth c H' locs' (a2.2.1 - c0) (a2.2.2 - s0) Q (F0 m pc2 ls'' (st2.map (tv sv ad')))) : W p l e R s m args below meth c H locs (a.2.1 - c0) (a.2.2 - s0) Q (F0 m pc ls' (st.map (tv sv ad))) := by
  subst hl
  obtain ⟨hx, hb, hml, hown, hts, hK, hA, hO, hin0, hfr, hlo, hsv⟩ := C
  obtain ⟨hP, hD, hS, hI, hL, hT, hlr, hao, hnl⟩ := hR
  obtain ⟨v, u, r, rfl, ha⟩ := m_ll ha
  cases ha
  exact lv_lmul hx hb hdec (kk ad H locs ls' ⟨hP, hD, hS, hI, hL, (sin_c trivial (sin_tl (sin_tl hT))), hlr, hao, hnl⟩ (fun _ _ => rfl))
set_option maxHeartbeats 1000000 in
theorem sd_ldiv {p : Program} {l : Launch} {e : Env} {R : Room} {s : State} {m : MethodId} {args : Array Value} {below : List Frame} {meth : Method} {c : Code} {H : Heap} {locs : List Loc} {Q : State → Prop} {A : Nat → Prop} {xs : List Int32} {sv : Value} {ao ad : Nat → Nat} {Z : ClassId × ClassId × ClassId} {D : va_G} {f : MInfo} {nL pc pc2 c0 s0 : Nat} {ls ls2 : ML} {st st2 : List Value} {a a2 : MA} {h h2 : MH} {ls' : Array Slot} {len x y : Nat} {cc : Int}  (C : Cx p R s m args meth c A xs sv ao Z D f nL) (hdec : decode f.2.2.1 pc = .ok (.ldiv, len)) (hl : len = 1) (hlk : LKb f (.ldiv, len, x, y, cc) = true) (ha : mact (.ldiv, len, x, y, cc) pc ls st a h = some (.inl (pc2, ls2, st2, a2, h2))) (hR : Rp s A xs sv ao Z D nL ad a.1 h H locs ls' ls st) (hc : a2.2.1 - c0 ≤ R.cells) (hs : a2.2.2 - s0 ≤ R.slots) (hc0 : c0 ≤ a.2.1) (hs0 : s0 ≤ a.2.2) (kk : ∀ (ad' : Nat → Nat) (H' : Heap) (locs' : List Loc) (ls'' : Array Slot), Rp s A xs sv ao Z D nL ad' a2.1 h2 H' locs' ls'' ls2 st2 → (∀ k, k < a.1 → ad' k = ad k) → W p l e R s m args below meth c H' locs' (a2.2.1 - c0) (a2.2.2 - s0) Q (F0 m pc2 ls'' (st2.map (tv sv ad')))) : W p l e R s m args below meth c H locs (a.2.1 - c0) (a.2.2 - s0) Q (F0 m pc ls' (st.map (tv sv ad))) := by
  subst hl
  obtain ⟨hx, hb, hml, hown, hts, hK, hA, hO, hin0, hfr, hlo, hsv⟩ := C
  obtain ⟨hP, hD, hS, hI, hL, hT, hlr, hao, hnl⟩ := hR
  obtain ⟨v, u, r, rfl, ha⟩ := m_ll ha
  have ha := (show (if v = 0 then none else nx (pc + 1) ls (.long (u / v) :: r) a h) = some _ from ha)
  obtain ⟨h0, ha⟩ := m_ifn ha
  cases ha
  skip
  exact lv_ldiv hx hb hdec h0 (kk ad H locs ls' ⟨hP, hD, hS, hI, hL, (sin_c trivial (sin_tl (sin_tl hT))), hlr, hao, hnl⟩ (fun _ _ => rfl))
set_option maxHeartbeats 1000000 in
theorem sd_lrem {p : Program} {l : Launch} {e : Env} {R : Room} {s : State} {m : MethodId} {args : Array Value} {below : List Frame} {meth : Method} {c : Code} {H : Heap} {locs : List Loc} {Q : State → Prop} {A : Nat → Prop} {xs : List Int32} {sv : Value} {ao ad : Nat → Nat} {Z : ClassId × ClassId × ClassId} {D : va_G} {f : MInfo} {nL pc pc2 c0 s0 : Nat} {ls ls2 : ML} {st st2 : List Value} {a a2 : MA} {h h2 : MH} {ls' : Array Slot} {len x y : Nat} {cc : Int}  (C : Cx p R s m args meth c A xs sv ao Z D f nL) (hdec : decode f.2.2.1 pc = .ok (.lrem, len)) (hl : len = 1) (hlk : LKb f (.lrem, len, x, y, cc) = true) (ha : mact (.lrem, len, x, y, cc) pc ls st a h = some (.inl (pc2, ls2, st2, a2, h2))) (hR : Rp s A xs sv ao Z D nL ad a.1 h H locs ls' ls st) (hc : a2.2.1 - c0 ≤ R.cells) (hs : a2.2.2 - s0 ≤ R.slots) (hc0 : c0 ≤ a.2.1) (hs0 : s0 ≤ a.2.2) (kk : ∀ (ad' : Nat → Nat) (H' : Heap) (locs' : List Loc) (ls'' : Array Slot), Rp s A xs sv ao Z D nL ad' a2.1 h2 H' locs' ls'' ls2 st2 → (∀ k, k < a.1 → ad' k = ad k) → W p l e R s m args below meth c H' locs' (a2.2.1 - c0) (a2.2.2 - s0) Q (F0 m pc2 ls'' (st2.map (tv sv ad')))) : W p l e R s m args below meth c H locs (a.2.1 - c0) (a.2.2 - s0) Q (F0 m pc ls' (st.map (tv sv ad))) := by
  subst hl
  obtain ⟨hx, hb, hml, hown, hts, hK, hA, hO, hin0, hfr, hlo, hsv⟩ := C
  obtain ⟨hP, hD, hS, hI, hL, hT, hlr, hao, hnl⟩ := hR
  obtain ⟨v, u, r, rfl, ha⟩ := m_ll ha
  have ha := (show (if v = 0 then none else nx (pc + 1) ls (.long (u % v) :: r) a h) = some _ from ha)
  obtain ⟨h0, ha⟩ := m_ifn ha
  cases ha
  rw [lrem_eq] at kk
  exact lv_lrem hx hb hdec h0 (kk ad H locs ls' ⟨hP, hD, hS, hI, hL, (sin_c trivial (sin_tl (sin_tl hT))), hlr, hao, hnl⟩ (fun _ _ => rfl))
set_option maxHeartbeats 1000000 in
theorem sd_lcmp {p : Program} {l : Launch} {e : Env} {R : Room} {s : State} {m : MethodId} {args : Array Value} {below : List Frame} {meth : Method} {c : Code} {H : Heap} {locs : List Loc} {Q : State → Prop} {A : Nat → Prop} {xs : List Int32} {sv : Value} {ao ad : Nat → Nat} {Z : ClassId × ClassId × ClassId} {D : va_G} {f : MInfo} {nL pc pc2 c0 s0 : Nat} {ls ls2 : ML} {st st2 : List Value} {a a2 : MA} {h h2 : MH} {ls' : Array Slot} {len x y : Nat} {cc : Int}  (C : Cx p R s m args meth c A xs sv ao Z D f nL) (hdec : decode f.2.2.1 pc = .ok (.lcmp, len)) (hl : len = 1) (hlk : LKb f (.lcmp, len, x, y, cc) = true) (ha : mact (.lcmp, len, x, y, cc) pc ls st a h = some (.inl (pc2, ls2, st2, a2, h2))) (hR : Rp s A xs sv ao Z D nL ad a.1 h H locs ls' ls st) (hc : a2.2.1 - c0 ≤ R.cells) (hs : a2.2.2 - s0 ≤ R.slots) (hc0 : c0 ≤ a.2.1) (hs0 : s0 ≤ a.2.2) (kk : ∀ (ad' : Nat → Nat) (H' : Heap) (locs' : List Loc) (ls'' : Array Slot), Rp s A xs sv ao Z D nL ad' a2.1 h2 H' locs' ls'' ls2 st2 → (∀ k, k < a.1 → ad' k = ad k) → W p l e R s m args below meth c H' locs' (a2.2.1 - c0) (a2.2.2 - s0) Q (F0 m pc2 ls'' (st2.map (tv sv ad')))) : W p l e R s m args below meth c H locs (a.2.1 - c0) (a.2.2 - s0) Q (F0 m pc ls' (st.map (tv sv ad))) := by
  subst hl
  obtain ⟨hx, hb, hml, hown, hts, hK, hA, hO, hin0, hfr, hlo, hsv⟩ := C
  obtain ⟨hP, hD, hS, hI, hL, hT, hlr, hao, hnl⟩ := hR
  obtain ⟨v, u, r, rfl, ha⟩ := m_ll ha
  cases ha
  refine W.lcmp hx hb hdec ?_
  rw [lcmp_eq]
  exact kk ad H locs ls' ⟨hP, hD, hS, hI, hL, (sin_c trivial (sin_tl (sin_tl hT))), hlr, hao, hnl⟩ (fun _ _ => rfl)
set_option maxHeartbeats 1000000 in
theorem sd_ineg {p : Program} {l : Launch} {e : Env} {R : Room} {s : State} {m : MethodId} {args : Array Value} {below : List Frame} {meth : Method} {c : Code} {H : Heap} {locs : List Loc} {Q : State → Prop} {A : Nat → Prop} {xs : List Int32} {sv : Value} {ao ad : Nat → Nat} {Z : ClassId × ClassId × ClassId} {D : va_G} {f : MInfo} {nL pc pc2 c0 s0 : Nat} {ls ls2 : ML} {st st2 : List Value} {a a2 : MA} {h h2 : MH} {ls' : Array Slot} {len x y : Nat} {cc : Int}  (C : Cx p R s m args meth c A xs sv ao Z D f nL) (hdec : decode f.2.2.1 pc = .ok (.ineg, len)) (hl : len = 1) (hlk : LKb f (.ineg, len, x, y, cc) = true) (ha : mact (.ineg, len, x, y, cc) pc ls st a h = some (.inl (pc2, ls2, st2, a2, h2))) (hR : Rp s A xs sv ao Z D nL ad a.1 h H locs ls' ls st) (hc : a2.2.1 - c0 ≤ R.cells) (hs : a2.2.2 - s0 ≤ R.slots) (hc0 : c0 ≤ a.2.1) (hs0 : s0 ≤ a.2.2) (kk : ∀ (ad' : Nat → Nat) (H' : Heap) (locs' : List Loc) (ls'' : Array Slot), Rp s A xs sv ao Z D nL ad' a2.1 h2 H' locs' ls'' ls2 st2 → (∀ k, k < a.1 → ad' k = ad k) → W p l e R s m args below meth c H' locs' (a2.2.1 - c0) (a2.2.2 - s0) Q (F0 m pc2 ls'' (st2.map (tv sv ad')))) : W p l e R s m args below meth c H locs (a.2.1 - c0) (a.2.2 - s0) Q (F0 m pc ls' (st.map (tv sv ad))) := by
  subst hl
  obtain ⟨hx, hb, hml, hown, hts, hK, hA, hO, hin0, hfr, hlo, hsv⟩ := C
  obtain ⟨hP, hD, hS, hI, hL, hT, hlr, hao, hnl⟩ := hR
  obtain ⟨v, r, rfl, ha⟩ := m_i ha
  cases ha
  exact lv_ineg hx hb hdec  (kk ad H locs ls' ⟨hP, hD, hS, hI, hL, (sin_c trivial (sin_tl hT)), hlr, hao, hnl⟩ (fun _ _ => rfl))
set_option maxHeartbeats 1000000 in
theorem sd_i2b {p : Program} {l : Launch} {e : Env} {R : Room} {s : State} {m : MethodId} {args : Array Value} {below : List Frame} {meth : Method} {c : Code} {H : Heap} {locs : List Loc} {Q : State → Prop} {A : Nat → Prop} {xs : List Int32} {sv : Value} {ao ad : Nat → Nat} {Z : ClassId × ClassId × ClassId} {D : va_G} {f : MInfo} {nL pc pc2 c0 s0 : Nat} {ls ls2 : ML} {st st2 : List Value} {a a2 : MA} {h h2 : MH} {ls' : Array Slot} {len x y : Nat} {cc : Int}  (C : Cx p R s m args meth c A xs sv ao Z D f nL) (hdec : decode f.2.2.1 pc = .ok (.i2b, len)) (hl : len = 1) (hlk : LKb f (.i2b, len, x, y, cc) = true) (ha : mact (.i2b, len, x, y, cc) pc ls st a h = some (.inl (pc2, ls2, st2, a2, h2))) (hR : Rp s A xs sv ao Z D nL ad a.1 h H locs ls' ls st) (hc : a2.2.1 - c0 ≤ R.cells) (hs : a2.2.2 - s0 ≤ R.slots) (hc0 : c0 ≤ a.2.1) (hs0 : s0 ≤ a.2.2) (kk : ∀ (ad' : Nat → Nat) (H' : Heap) (locs' : List Loc) (ls'' : Array Slot), Rp s A xs sv ao Z D nL ad' a2.1 h2 H' locs' ls'' ls2 st2 → (∀ k, k < a.1 → ad' k = ad k) → W p l e R s m args below meth c H' locs' (a2.2.1 - c0) (a2.2.2 - s0) Q (F0 m pc2 ls'' (st2.map (tv sv ad')))) : W p l e R s m args below meth c H locs (a.2.1 - c0) (a.2.2 - s0) Q (F0 m pc ls' (st.map (tv sv ad))) := by
  subst hl
  obtain ⟨hx, hb, hml, hown, hts, hK, hA, hO, hin0, hfr, hlo, hsv⟩ := C
  obtain ⟨hP, hD, hS, hI, hL, hT, hlr, hao, hnl⟩ := hR
  obtain ⟨v, r, rfl, ha⟩ := m_i ha
  cases ha
  exact lv_i2b hx hb hdec rfl (kk ad H locs ls' ⟨hP, hD, hS, hI, hL, (sin_c trivial (sin_tl hT)), hlr, hao, hnl⟩ (fun _ _ => rfl))
set_option maxHeartbeats 1000000 in
theorem sd_i2s {p : Program} {l : Launch} {e : Env} {R : Room} {s : State} {m : MethodId} {args : Array Value} {below : List Frame} {meth : Method} {c : Code} {H : Heap} {locs : List Loc} {Q : State → Prop} {A : Nat → Prop} {xs : List Int32} {sv : Value} {ao ad : Nat → Nat} {Z : ClassId × ClassId × ClassId} {D : va_G} {f : MInfo} {nL pc pc2 c0 s0 : Nat} {ls ls2 : ML} {st st2 : List Value} {a a2 : MA} {h h2 : MH} {ls' : Array Slot} {len x y : Nat} {cc : Int}  (C : Cx p R s m args meth c A xs sv ao Z D f nL) (hdec : decode f.2.2.1 pc = .ok (.i2s, len)) (hl : len = 1) (hlk : LKb f (.i2s, len, x, y, cc) = true) (ha : mact (.i2s, len, x, y, cc) pc ls st a h = some (.inl (pc2, ls2, st2, a2, h2))) (hR : Rp s A xs sv ao Z D nL ad a.1 h H locs ls' ls st) (hc : a2.2.1 - c0 ≤ R.cells) (hs : a2.2.2 - s0 ≤ R.slots) (hc0 : c0 ≤ a.2.1) (hs0 : s0 ≤ a.2.2) (kk : ∀ (ad' : Nat → Nat) (H' : Heap) (locs' : List Loc) (ls'' : Array Slot), Rp s A xs sv ao Z D nL ad' a2.1 h2 H' locs' ls'' ls2 st2 → (∀ k, k < a.1 → ad' k = ad k) → W p l e R s m args below meth c H' locs' (a2.2.1 - c0) (a2.2.2 - s0) Q (F0 m pc2 ls'' (st2.map (tv sv ad')))) : W p l e R s m args below meth c H locs (a.2.1 - c0) (a.2.2 - s0) Q (F0 m pc ls' (st.map (tv sv ad))) := by
  subst hl
  obtain ⟨hx, hb, hml, hown, hts, hK, hA, hO, hin0, hfr, hlo, hsv⟩ := C
  obtain ⟨hP, hD, hS, hI, hL, hT, hlr, hao, hnl⟩ := hR
  obtain ⟨v, r, rfl, ha⟩ := m_i ha
  cases ha
  exact lv_i2s hx hb hdec rfl (kk ad H locs ls' ⟨hP, hD, hS, hI, hL, (sin_c trivial (sin_tl hT)), hlr, hao, hnl⟩ (fun _ _ => rfl))
set_option maxHeartbeats 1000000 in
theorem sd_i2c {p : Program} {l : Launch} {e : Env} {R : Room} {s : State} {m : MethodId} {args : Array Value} {below : List Frame} {meth : Method} {c : Code} {H : Heap} {locs : List Loc} {Q : State → Prop} {A : Nat → Prop} {xs : List Int32} {sv : Value} {ao ad : Nat → Nat} {Z : ClassId × ClassId × ClassId} {D : va_G} {f : MInfo} {nL pc pc2 c0 s0 : Nat} {ls ls2 : ML} {st st2 : List Value} {a a2 : MA} {h h2 : MH} {ls' : Array Slot} {len x y : Nat} {cc : Int}  (C : Cx p R s m args meth c A xs sv ao Z D f nL) (hdec : decode f.2.2.1 pc = .ok (.i2c, len)) (hl : len = 1) (hlk : LKb f (.i2c, len, x, y, cc) = true) (ha : mact (.i2c, len, x, y, cc) pc ls st a h = some (.inl (pc2, ls2, st2, a2, h2))) (hR : Rp s A xs sv ao Z D nL ad a.1 h H locs ls' ls st) (hc : a2.2.1 - c0 ≤ R.cells) (hs : a2.2.2 - s0 ≤ R.slots) (hc0 : c0 ≤ a.2.1) (hs0 : s0 ≤ a.2.2) (kk : ∀ (ad' : Nat → Nat) (H' : Heap) (locs' : List Loc) (ls'' : Array Slot), Rp s A xs sv ao Z D nL ad' a2.1 h2 H' locs' ls'' ls2 st2 → (∀ k, k < a.1 → ad' k = ad k) → W p l e R s m args below meth c H' locs' (a2.2.1 - c0) (a2.2.2 - s0) Q (F0 m pc2 ls'' (st2.map (tv sv ad')))) : W p l e R s m args below meth c H locs (a.2.1 - c0) (a.2.2 - s0) Q (F0 m pc ls' (st.map (tv sv ad))) := by
  subst hl
  obtain ⟨hx, hb, hml, hown, hts, hK, hA, hO, hin0, hfr, hlo, hsv⟩ := C
  obtain ⟨hP, hD, hS, hI, hL, hT, hlr, hao, hnl⟩ := hR
  obtain ⟨v, r, rfl, ha⟩ := m_i ha
  cases ha
  exact lv_i2c hx hb hdec rfl (kk ad H locs ls' ⟨hP, hD, hS, hI, hL, (sin_c trivial (sin_tl hT)), hlr, hao, hnl⟩ (fun _ _ => rfl))
set_option maxHeartbeats 1000000 in
theorem sd_i2l {p : Program} {l : Launch} {e : Env} {R : Room} {s : State} {m : MethodId} {args : Array Value} {below : List Frame} {meth : Method} {c : Code} {H : Heap} {locs : List Loc} {Q : State → Prop} {A : Nat → Prop} {xs : List Int32} {sv : Value} {ao ad : Nat → Nat} {Z : ClassId × ClassId × ClassId} {D : va_G} {f : MInfo} {nL pc pc2 c0 s0 : Nat} {ls ls2 : ML} {st st2 : List Value} {a a2 : MA} {h h2 : MH} {ls' : Array Slot} {len x y : Nat} {cc : Int}  (C : Cx p R s m args meth c A xs sv ao Z D f nL) (hdec : decode f.2.2.1 pc = .ok (.i2l, len)) (hl : len = 1) (hlk : LKb f (.i2l, len, x, y, cc) = true) (ha : mact (.i2l, len, x, y, cc) pc ls st a h = some (.inl (pc2, ls2, st2, a2, h2))) (hR : Rp s A xs sv ao Z D nL ad a.1 h H locs ls' ls st) (hc : a2.2.1 - c0 ≤ R.cells) (hs : a2.2.2 - s0 ≤ R.slots) (hc0 : c0 ≤ a.2.1) (hs0 : s0 ≤ a.2.2) (kk : ∀ (ad' : Nat → Nat) (H' : Heap) (locs' : List Loc) (ls'' : Array Slot), Rp s A xs sv ao Z D nL ad' a2.1 h2 H' locs' ls'' ls2 st2 → (∀ k, k < a.1 → ad' k = ad k) → W p l e R s m args below meth c H' locs' (a2.2.1 - c0) (a2.2.2 - s0) Q (F0 m pc2 ls'' (st2.map (tv sv ad')))) : W p l e R s m args below meth c H locs (a.2.1 - c0) (a.2.2 - s0) Q (F0 m pc ls' (st.map (tv sv ad))) := by
  subst hl
  obtain ⟨hx, hb, hml, hown, hts, hK, hA, hO, hin0, hfr, hlo, hsv⟩ := C
  obtain ⟨hP, hD, hS, hI, hL, hT, hlr, hao, hnl⟩ := hR
  obtain ⟨v, r, rfl, ha⟩ := m_i ha
  cases ha
  exact lv_i2l hx hb hdec rfl (kk ad H locs ls' ⟨hP, hD, hS, hI, hL, (sin_c trivial (sin_tl hT)), hlr, hao, hnl⟩ (fun _ _ => rfl))
set_option maxHeartbeats 1000000 in
theorem sd_dup {p : Program} {l : Launch} {e : Env} {R : Room} {s : State} {m : MethodId} {args : Array Value} {below : List Frame} {meth : Method} {c : Code} {H : Heap} {locs : List Loc} {Q : State → Prop} {A : Nat → Prop} {xs : List Int32} {sv : Value} {ao ad : Nat → Nat} {Z : ClassId × ClassId × ClassId} {D : va_G} {f : MInfo} {nL pc pc2 c0 s0 : Nat} {ls ls2 : ML} {st st2 : List Value} {a a2 : MA} {h h2 : MH} {ls' : Array Slot} {len x y : Nat} {cc : Int}  (C : Cx p R s m args meth c A xs sv ao Z D f nL) (hdec : decode f.2.2.1 pc = .ok (.dup, len)) (hl : len = 1) (hlk : LKb f (.dup, len, x, y, cc) = true) (ha : mact (.dup, len, x, y, cc) pc ls st a h = some (.inl (pc2, ls2, st2, a2, h2))) (hR : Rp s A xs sv ao Z D nL ad a.1 h H locs ls' ls st) (hc : a2.2.1 - c0 ≤ R.cells) (hs : a2.2.2 - s0 ≤ R.slots) (hc0 : c0 ≤ a.2.1) (hs0 : s0 ≤ a.2.2) (kk : ∀ (ad' : Nat → Nat) (H' : Heap) (locs' : List Loc) (ls'' : Array Slot), Rp s A xs sv ao Z D nL ad' a2.1 h2 H' locs' ls'' ls2 st2 → (∀ k, k < a.1 → ad' k = ad k) → W p l e R s m args below meth c H' locs' (a2.2.1 - c0) (a2.2.2 - s0) Q (F0 m pc2 ls'' (st2.map (tv sv ad')))) : W p l e R s m args below meth c H locs (a.2.1 - c0) (a.2.2 - s0) Q (F0 m pc ls' (st.map (tv sv ad))) := by
  subst hl
  obtain ⟨hx, hb, hml, hown, hts, hK, hA, hO, hin0, hfr, hlo, hsv⟩ := C
  obtain ⟨hP, hD, hS, hI, hL, hT, hlr, hao, hnl⟩ := hR
  obtain ⟨v, r, rfl, ha⟩ := m_v ha
  have ha := (show (if v.category = 1 then nx (pc + 1) ls (v :: v :: r) a h else none) = some _ from ha)
  obtain ⟨h1, ha⟩ := m_if ha
  cases ha
  exact lv_dup hx hb hdec ((tv_cat hsv).trans h1) (kk ad H locs ls' ⟨hP, hD, hS, hI, hL, (sin_c (sin_hd hT) hT), hlr, hao, hnl⟩ (fun _ _ => rfl))
set_option maxHeartbeats 1000000 in
theorem sd_dup2 {p : Program} {l : Launch} {e : Env} {R : Room} {s : State} {m : MethodId} {args : Array Value} {below : List Frame} {meth : Method} {c : Code} {H : Heap} {locs : List Loc} {Q : State → Prop} {A : Nat → Prop} {xs : List Int32} {sv : Value} {ao ad : Nat → Nat} {Z : ClassId × ClassId × ClassId} {D : va_G} {f : MInfo} {nL pc pc2 c0 s0 : Nat} {ls ls2 : ML} {st st2 : List Value} {a a2 : MA} {h h2 : MH} {ls' : Array Slot} {len x y : Nat} {cc : Int}  (C : Cx p R s m args meth c A xs sv ao Z D f nL) (hdec : decode f.2.2.1 pc = .ok (.dup2, len)) (hl : len = 1) (hlk : LKb f (.dup2, len, x, y, cc) = true) (ha : mact (.dup2, len, x, y, cc) pc ls st a h = some (.inl (pc2, ls2, st2, a2, h2))) (hR : Rp s A xs sv ao Z D nL ad a.1 h H locs ls' ls st) (hc : a2.2.1 - c0 ≤ R.cells) (hs : a2.2.2 - s0 ≤ R.slots) (hc0 : c0 ≤ a.2.1) (hs0 : s0 ≤ a.2.2) (kk : ∀ (ad' : Nat → Nat) (H' : Heap) (locs' : List Loc) (ls'' : Array Slot), Rp s A xs sv ao Z D nL ad' a2.1 h2 H' locs' ls'' ls2 st2 → (∀ k, k < a.1 → ad' k = ad k) → W p l e R s m args below meth c H' locs' (a2.2.1 - c0) (a2.2.2 - s0) Q (F0 m pc2 ls'' (st2.map (tv sv ad')))) : W p l e R s m args below meth c H locs (a.2.1 - c0) (a.2.2 - s0) Q (F0 m pc ls' (st.map (tv sv ad))) := by
  subst hl
  obtain ⟨hx, hb, hml, hown, hts, hK, hA, hO, hin0, hfr, hlo, hsv⟩ := C
  obtain ⟨hP, hD, hS, hI, hL, hT, hlr, hao, hnl⟩ := hR
  obtain ⟨v, u, r, rfl, ha⟩ := m_vv ha
  have ha := (show (if v.category = 1 ∧ u.category = 1 then nx (pc + 1) ls (v :: u :: v :: u :: r) a h else none) = some _ from ha)
  obtain ⟨⟨h1, h2⟩, ha⟩ := m_if ha
  cases ha
  exact lv_dup2_11 hx hb hdec ((tv_cat hsv).trans h1) ((tv_cat hsv).trans h2) (kk ad H locs ls' ⟨hP, hD, hS, hI, hL, (sin_c (sin_hd hT) (sin_c (sin_hd (sin_tl hT)) hT)), hlr, hao, hnl⟩ (fun _ _ => rfl))
set_option maxHeartbeats 1000000 in
theorem sd_dup_x1 {p : Program} {l : Launch} {e : Env} {R : Room} {s : State} {m : MethodId} {args : Array Value} {below : List Frame} {meth : Method} {c : Code} {H : Heap} {locs : List Loc} {Q : State → Prop} {A : Nat → Prop} {xs : List Int32} {sv : Value} {ao ad : Nat → Nat} {Z : ClassId × ClassId × ClassId} {D : va_G} {f : MInfo} {nL pc pc2 c0 s0 : Nat} {ls ls2 : ML} {st st2 : List Value} {a a2 : MA} {h h2 : MH} {ls' : Array Slot} {len x y : Nat} {cc : Int}  (C : Cx p R s m args meth c A xs sv ao Z D f nL) (hdec : decode f.2.2.1 pc = .ok (.dup_x1, len)) (hl : len = 1) (hlk : LKb f (.dup_x1, len, x, y, cc) = true) (ha : mact (.dup_x1, len, x, y, cc) pc ls st a h = some (.inl (pc2, ls2, st2, a2, h2))) (hR : Rp s A xs sv ao Z D nL ad a.1 h H locs ls' ls st) (hc : a2.2.1 - c0 ≤ R.cells) (hs : a2.2.2 - s0 ≤ R.slots) (hc0 : c0 ≤ a.2.1) (hs0 : s0 ≤ a.2.2) (kk : ∀ (ad' : Nat → Nat) (H' : Heap) (locs' : List Loc) (ls'' : Array Slot), Rp s A xs sv ao Z D nL ad' a2.1 h2 H' locs' ls'' ls2 st2 → (∀ k, k < a.1 → ad' k = ad k) → W p l e R s m args below meth c H' locs' (a2.2.1 - c0) (a2.2.2 - s0) Q (F0 m pc2 ls'' (st2.map (tv sv ad')))) : W p l e R s m args below meth c H locs (a.2.1 - c0) (a.2.2 - s0) Q (F0 m pc ls' (st.map (tv sv ad))) := by
  subst hl
  obtain ⟨hx, hb, hml, hown, hts, hK, hA, hO, hin0, hfr, hlo, hsv⟩ := C
  obtain ⟨hP, hD, hS, hI, hL, hT, hlr, hao, hnl⟩ := hR
  obtain ⟨v, u, r, rfl, ha⟩ := m_vv ha
  have ha := (show (if v.category = 1 ∧ u.category = 1 then nx (pc + 1) ls (v :: u :: v :: r) a h else none) = some _ from ha)
  obtain ⟨⟨h1, h2⟩, ha⟩ := m_if ha
  cases ha
  exact lv_dup_x1 hx hb hdec ((tv_cat hsv).trans h1) ((tv_cat hsv).trans h2) (kk ad H locs ls' ⟨hP, hD, hS, hI, hL, (sin_c (sin_hd hT) (sin_c (sin_hd (sin_tl hT)) (sin_c (sin_hd hT) (sin_tl (sin_tl hT))))), hlr, hao, hnl⟩ (fun _ _ => rfl))
set_option maxHeartbeats 1000000 in
theorem sd_pop {p : Program} {l : Launch} {e : Env} {R : Room} {s : State} {m : MethodId} {args : Array Value} {below : List Frame} {meth : Method} {c : Code} {H : Heap} {locs : List Loc} {Q : State → Prop} {A : Nat → Prop} {xs : List Int32} {sv : Value} {ao ad : Nat → Nat} {Z : ClassId × ClassId × ClassId} {D : va_G} {f : MInfo} {nL pc pc2 c0 s0 : Nat} {ls ls2 : ML} {st st2 : List Value} {a a2 : MA} {h h2 : MH} {ls' : Array Slot} {len x y : Nat} {cc : Int}  (C : Cx p R s m args meth c A xs sv ao Z D f nL) (hdec : decode f.2.2.1 pc = .ok (.pop, len)) (hl : len = 1) (hlk : LKb f (.pop, len, x, y, cc) = true) (ha : mact (.pop, len, x, y, cc) pc ls st a h = some (.inl (pc2, ls2, st2, a2, h2))) (hR : Rp s A xs sv ao Z D nL ad a.1 h H locs ls' ls st) (hc : a2.2.1 - c0 ≤ R.cells) (hs : a2.2.2 - s0 ≤ R.slots) (hc0 : c0 ≤ a.2.1) (hs0 : s0 ≤ a.2.2) (kk : ∀ (ad' : Nat → Nat) (H' : Heap) (locs' : List Loc) (ls'' : Array Slot), Rp s A xs sv ao Z D nL ad' a2.1 h2 H' locs' ls'' ls2 st2 → (∀ k, k < a.1 → ad' k = ad k) → W p l e R s m args below meth c H' locs' (a2.2.1 - c0) (a2.2.2 - s0) Q (F0 m pc2 ls'' (st2.map (tv sv ad')))) : W p l e R s m args below meth c H locs (a.2.1 - c0) (a.2.2 - s0) Q (F0 m pc ls' (st.map (tv sv ad))) := by
  subst hl
  obtain ⟨hx, hb, hml, hown, hts, hK, hA, hO, hin0, hfr, hlo, hsv⟩ := C
  obtain ⟨hP, hD, hS, hI, hL, hT, hlr, hao, hnl⟩ := hR
  obtain ⟨v, r, rfl, ha⟩ := m_v ha
  have ha := (show (if v.category = 1 then nx (pc + 1) ls (r) a h else none) = some _ from ha)
  obtain ⟨h1, ha⟩ := m_if ha
  cases ha
  exact lv_pop hx hb hdec ((tv_cat hsv).trans h1) (kk ad H locs ls' ⟨hP, hD, hS, hI, hL, (sin_tl hT), hlr, hao, hnl⟩ (fun _ _ => rfl))
set_option maxHeartbeats 1000000 in
theorem sd_goto {p : Program} {l : Launch} {e : Env} {R : Room} {s : State} {m : MethodId} {args : Array Value} {below : List Frame} {meth : Method} {c : Code} {H : Heap} {locs : List Loc} {Q : State → Prop} {A : Nat → Prop} {xs : List Int32} {sv : Value} {ao ad : Nat → Nat} {Z : ClassId × ClassId × ClassId} {D : va_G} {f : MInfo} {nL pc pc2 c0 s0 : Nat} {ls ls2 : ML} {st st2 : List Value} {a a2 : MA} {h h2 : MH} {ls' : Array Slot} {len x y : Nat} {cc : Int} {off : Int} (C : Cx p R s m args meth c A xs sv ao Z D f nL) (hdec : decode f.2.2.1 pc = .ok (.goto off, len)) (hl : len = 3) (hlk : LKb f (.goto off, len, x, y, cc) = true) (ha : mact (.goto off, len, x, y, cc) pc ls st a h = some (.inl (pc2, ls2, st2, a2, h2))) (hR : Rp s A xs sv ao Z D nL ad a.1 h H locs ls' ls st) (hc : a2.2.1 - c0 ≤ R.cells) (hs : a2.2.2 - s0 ≤ R.slots) (hc0 : c0 ≤ a.2.1) (hs0 : s0 ≤ a.2.2) (kk : ∀ (ad' : Nat → Nat) (H' : Heap) (locs' : List Loc) (ls'' : Array Slot), Rp s A xs sv ao Z D nL ad' a2.1 h2 H' locs' ls'' ls2 st2 → (∀ k, k < a.1 → ad' k = ad k) → W p l e R s m args below meth c H' locs' (a2.2.1 - c0) (a2.2.2 - s0) Q (F0 m pc2 ls'' (st2.map (tv sv ad')))) : W p l e R s m args below meth c H locs (a.2.1 - c0) (a.2.2 - s0) Q (F0 m pc ls' (st.map (tv sv ad))) := by
  subst hl
  obtain ⟨hx, hb, hml, hown, hts, hK, hA, hO, hin0, hfr, hlo, hsv⟩ := C
  obtain ⟨hP, hD, hS, hI, hL, hT, hlr, hao, hnl⟩ := hR
  have ha := (show jx pc off ls st a h = some _ from ha)
  obtain ⟨t, ht, ha⟩ := m_jx ha
  cases ha
  exact lv_goto hx hb hdec ht (kk ad H locs ls' ⟨hP, hD, hS, hI, hL, hT, hlr, hao, hnl⟩ (fun _ _ => rfl))
set_option maxHeartbeats 1000000 in
theorem sd_if_icmp {p : Program} {l : Launch} {e : Env} {R : Room} {s : State} {m : MethodId} {args : Array Value} {below : List Frame} {meth : Method} {c : Code} {H : Heap} {locs : List Loc} {Q : State → Prop} {A : Nat → Prop} {xs : List Int32} {sv : Value} {ao ad : Nat → Nat} {Z : ClassId × ClassId × ClassId} {D : va_G} {f : MInfo} {nL pc pc2 c0 s0 : Nat} {ls ls2 : ML} {st st2 : List Value} {a a2 : MA} {h h2 : MH} {ls' : Array Slot} {len x y : Nat} {cc : Int} {k : Jvm.ClassFile.Cond} {off : Int} (hj : 0 ≤ (pc : Int) + off) (C : Cx p R s m args meth c A xs sv ao Z D f nL) (hdec : decode f.2.2.1 pc = .ok (.if_icmp k off, len)) (hl : len = 3) (hlk : LKb f (.if_icmp k off, len, x, y, cc) = true) (ha : mact (.if_icmp k off, len, x, y, cc) pc ls st a h = some (.inl (pc2, ls2, st2, a2, h2))) (hR : Rp s A xs sv ao Z D nL ad a.1 h H locs ls' ls st) (hc : a2.2.1 - c0 ≤ R.cells) (hs : a2.2.2 - s0 ≤ R.slots) (hc0 : c0 ≤ a.2.1) (hs0 : s0 ≤ a.2.2) (kk : ∀ (ad' : Nat → Nat) (H' : Heap) (locs' : List Loc) (ls'' : Array Slot), Rp s A xs sv ao Z D nL ad' a2.1 h2 H' locs' ls'' ls2 st2 → (∀ k, k < a.1 → ad' k = ad k) → W p l e R s m args below meth c H' locs' (a2.2.1 - c0) (a2.2.2 - s0) Q (F0 m pc2 ls'' (st2.map (tv sv ad')))) : W p l e R s m args below meth c H locs (a.2.1 - c0) (a.2.2 - s0) Q (F0 m pc ls' (st.map (tv sv ad))) := by
  subst hl
  obtain ⟨hx, hb, hml, hown, hts, hK, hA, hO, hin0, hfr, hlo, hsv⟩ := C
  obtain ⟨hP, hD, hS, hI, hL, hT, hlr, hao, hnl⟩ := hR
  obtain ⟨v, u, r, rfl, ha⟩ := m_ii ha
  have ha := (show (if mcond k u v = true then jx pc off ls r a h else nx (pc + 3) ls r a h) = some _ from ha)
  cases k with
  | eq =>
    by_cases q : mcond .eq u v = true
    · have ha2 : jx pc off ls r a h = some (.inl (pc2, ls2, st2, a2, h2)) := by have h3 := ha; simp only [if_pos q] at h3; exact h3
      obtain ⟨t, ht, ha3⟩ := m_jx ha2
      cases ha3
      exact lv_icmp_eq hx hb hdec ht (fun _ => kk ad H locs ls' ⟨hP, hD, hS, hI, hL, (sin_tl (sin_tl hT)), hlr, hao, hnl⟩ (fun _ _ => rfl)) (fun z => absurd q (fun q => z (by simpa [mcond] using q)))
    · have ha2 : nx (pc + 3) ls r a h = some (.inl (pc2, ls2, st2, a2, h2)) := by have h3 := ha; simp only [if_neg q] at h3; exact h3
      cases ha2
      obtain ⟨t, ht⟩ : ∃ t : Nat, (pc : Int) + off = (t : Int) := ⟨_, (Int.toNat_of_nonneg hj).symm⟩
      exact lv_icmp_eq hx hb hdec ht (fun z => absurd (by simpa [mcond] using z) q) (fun _ => kk ad H locs ls' ⟨hP, hD, hS, hI, hL, (sin_tl (sin_tl hT)), hlr, hao, hnl⟩ (fun _ _ => rfl))
  | ne =>
    by_cases q : mcond .ne u v = true
    · have ha2 : jx pc off ls r a h = some (.inl (pc2, ls2, st2, a2, h2)) := by have h3 := ha; simp only [if_pos q] at h3; exact h3
      obtain ⟨t, ht, ha3⟩ := m_jx ha2
      cases ha3
      exact lv_icmp_ne hx hb hdec ht (fun _ => kk ad H locs ls' ⟨hP, hD, hS, hI, hL, (sin_tl (sin_tl hT)), hlr, hao, hnl⟩ (fun _ _ => rfl)) (fun z => absurd z (by simpa [mcond] using q))
    · have ha2 : nx (pc + 3) ls r a h = some (.inl (pc2, ls2, st2, a2, h2)) := by have h3 := ha; simp only [if_neg q] at h3; exact h3
      cases ha2
      obtain ⟨t, ht⟩ : ∃ t : Nat, (pc : Int) + off = (t : Int) := ⟨_, (Int.toNat_of_nonneg hj).symm⟩
      exact lv_icmp_ne hx hb hdec ht (fun z => absurd (by simpa [mcond] using z) q) (fun _ => kk ad H locs ls' ⟨hP, hD, hS, hI, hL, (sin_tl (sin_tl hT)), hlr, hao, hnl⟩ (fun _ _ => rfl))
  | lt =>
    by_cases q : mcond .lt u v = true
    · have ha2 : jx pc off ls r a h = some (.inl (pc2, ls2, st2, a2, h2)) := by have h3 := ha; simp only [if_pos q] at h3; exact h3
      obtain ⟨t, ht, ha3⟩ := m_jx ha2
      cases ha3
      exact lv_icmp_lt hx hb hdec ht (fun _ => kk ad H locs ls' ⟨hP, hD, hS, hI, hL, (sin_tl (sin_tl hT)), hlr, hao, hnl⟩ (fun _ _ => rfl)) (fun z => absurd q (fun q => z (by simpa [mcond] using q)))
    · have ha2 : nx (pc + 3) ls r a h = some (.inl (pc2, ls2, st2, a2, h2)) := by have h3 := ha; simp only [if_neg q] at h3; exact h3
      cases ha2
      obtain ⟨t, ht⟩ : ∃ t : Nat, (pc : Int) + off = (t : Int) := ⟨_, (Int.toNat_of_nonneg hj).symm⟩
      exact lv_icmp_lt hx hb hdec ht (fun z => absurd (by simpa [mcond] using z) q) (fun _ => kk ad H locs ls' ⟨hP, hD, hS, hI, hL, (sin_tl (sin_tl hT)), hlr, hao, hnl⟩ (fun _ _ => rfl))
  | ge =>
    by_cases q : mcond .ge u v = true
    · have ha2 : jx pc off ls r a h = some (.inl (pc2, ls2, st2, a2, h2)) := by have h3 := ha; simp only [if_pos q] at h3; exact h3
      obtain ⟨t, ht, ha3⟩ := m_jx ha2
      cases ha3
      exact lv_icmp_ge hx hb hdec ht (fun _ => kk ad H locs ls' ⟨hP, hD, hS, hI, hL, (sin_tl (sin_tl hT)), hlr, hao, hnl⟩ (fun _ _ => rfl)) (fun z => absurd q (fun q => z (by simpa [mcond] using q)))
    · have ha2 : nx (pc + 3) ls r a h = some (.inl (pc2, ls2, st2, a2, h2)) := by have h3 := ha; simp only [if_neg q] at h3; exact h3
      cases ha2
      obtain ⟨t, ht⟩ : ∃ t : Nat, (pc : Int) + off = (t : Int) := ⟨_, (Int.toNat_of_nonneg hj).symm⟩
      exact lv_icmp_ge hx hb hdec ht (fun z => absurd (by simpa [mcond] using z) q) (fun _ => kk ad H locs ls' ⟨hP, hD, hS, hI, hL, (sin_tl (sin_tl hT)), hlr, hao, hnl⟩ (fun _ _ => rfl))
  | gt =>
    by_cases q : mcond .gt u v = true
    · have ha2 : jx pc off ls r a h = some (.inl (pc2, ls2, st2, a2, h2)) := by have h3 := ha; simp only [if_pos q] at h3; exact h3
      obtain ⟨t, ht, ha3⟩ := m_jx ha2
      cases ha3
      exact lv_icmp_gt hx hb hdec ht (fun _ => kk ad H locs ls' ⟨hP, hD, hS, hI, hL, (sin_tl (sin_tl hT)), hlr, hao, hnl⟩ (fun _ _ => rfl)) (fun z => absurd q (fun q => z (by simpa [mcond] using q)))
    · have ha2 : nx (pc + 3) ls r a h = some (.inl (pc2, ls2, st2, a2, h2)) := by have h3 := ha; simp only [if_neg q] at h3; exact h3
      cases ha2
      obtain ⟨t, ht⟩ : ∃ t : Nat, (pc : Int) + off = (t : Int) := ⟨_, (Int.toNat_of_nonneg hj).symm⟩
      exact lv_icmp_gt hx hb hdec ht (fun z => absurd (by simpa [mcond] using z) q) (fun _ => kk ad H locs ls' ⟨hP, hD, hS, hI, hL, (sin_tl (sin_tl hT)), hlr, hao, hnl⟩ (fun _ _ => rfl))
  | le =>
    by_cases q : mcond .le u v = true
    · have ha2 : jx pc off ls r a h = some (.inl (pc2, ls2, st2, a2, h2)) := by have h3 := ha; simp only [if_pos q] at h3; exact h3
      obtain ⟨t, ht, ha3⟩ := m_jx ha2
      cases ha3
      exact lv_icmp_le hx hb hdec ht (fun _ => kk ad H locs ls' ⟨hP, hD, hS, hI, hL, (sin_tl (sin_tl hT)), hlr, hao, hnl⟩ (fun _ _ => rfl)) (fun z => absurd q (fun q => z (by simpa [mcond] using q)))
    · have ha2 : nx (pc + 3) ls r a h = some (.inl (pc2, ls2, st2, a2, h2)) := by have h3 := ha; simp only [if_neg q] at h3; exact h3
      cases ha2
      obtain ⟨t, ht⟩ : ∃ t : Nat, (pc : Int) + off = (t : Int) := ⟨_, (Int.toNat_of_nonneg hj).symm⟩
      exact lv_icmp_le hx hb hdec ht (fun z => absurd (by simpa [mcond] using z) q) (fun _ => kk ad H locs ls' ⟨hP, hD, hS, hI, hL, (sin_tl (sin_tl hT)), hlr, hao, hnl⟩ (fun _ _ => rfl))
set_option maxHeartbeats 1000000 in
theorem sd_ifCond {p : Program} {l : Launch} {e : Env} {R : Room} {s : State} {m : MethodId} {args : Array Value} {below : List Frame} {meth : Method} {c : Code} {H : Heap} {locs : List Loc} {Q : State → Prop} {A : Nat → Prop} {xs : List Int32} {sv : Value} {ao ad : Nat → Nat} {Z : ClassId × ClassId × ClassId} {D : va_G} {f : MInfo} {nL pc pc2 c0 s0 : Nat} {ls ls2 : ML} {st st2 : List Value} {a a2 : MA} {h h2 : MH} {ls' : Array Slot} {len x y : Nat} {cc : Int} {k : Jvm.ClassFile.Cond} {off : Int} (hj : 0 ≤ (pc : Int) + off) (C : Cx p R s m args meth c A xs sv ao Z D f nL) (hdec : decode f.2.2.1 pc = .ok (.ifCond k off, len)) (hl : len = 3) (hlk : LKb f (.ifCond k off, len, x, y, cc) = true) (ha : mact (.ifCond k off, len, x, y, cc) pc ls st a h = some (.inl (pc2, ls2, st2, a2, h2))) (hR : Rp s A xs sv ao Z D nL ad a.1 h H locs ls' ls st) (hc : a2.2.1 - c0 ≤ R.cells) (hs : a2.2.2 - s0 ≤ R.slots) (hc0 : c0 ≤ a.2.1) (hs0 : s0 ≤ a.2.2) (kk : ∀ (ad' : Nat → Nat) (H' : Heap) (locs' : List Loc) (ls'' : Array Slot), Rp s A xs sv ao Z D nL ad' a2.1 h2 H' locs' ls'' ls2 st2 → (∀ k, k < a.1 → ad' k = ad k) → W p l e R s m args below meth c H' locs' (a2.2.1 - c0) (a2.2.2 - s0) Q (F0 m pc2 ls'' (st2.map (tv sv ad')))) : W p l e R s m args below meth c H locs (a.2.1 - c0) (a.2.2 - s0) Q (F0 m pc ls' (st.map (tv sv ad))) := by
  subst hl
  obtain ⟨hx, hb, hml, hown, hts, hK, hA, hO, hin0, hfr, hlo, hsv⟩ := C
  obtain ⟨hP, hD, hS, hI, hL, hT, hlr, hao, hnl⟩ := hR
  obtain ⟨u, r, rfl, ha⟩ := m_i ha
  have ha := (show (if mcond k u 0 = true then jx pc off ls r a h else nx (pc + 3) ls r a h) = some _ from ha)
  cases k with
  | eq =>
    by_cases q : mcond .eq u 0 = true
    · have ha2 : jx pc off ls r a h = some (.inl (pc2, ls2, st2, a2, h2)) := by have h3 := ha; simp only [if_pos q] at h3; exact h3
      obtain ⟨t, ht, ha3⟩ := m_jx ha2
      cases ha3
      exact lv_if_eq hx hb hdec ht (fun _ => kk ad H locs ls' ⟨hP, hD, hS, hI, hL, (sin_tl hT), hlr, hao, hnl⟩ (fun _ _ => rfl)) (fun z => absurd q (fun q => z (by simpa [mcond] using q)))
    · have ha2 : nx (pc + 3) ls r a h = some (.inl (pc2, ls2, st2, a2, h2)) := by have h3 := ha; simp only [if_neg q] at h3; exact h3
      cases ha2
      obtain ⟨t, ht⟩ : ∃ t : Nat, (pc : Int) + off = (t : Int) := ⟨_, (Int.toNat_of_nonneg hj).symm⟩
      exact lv_if_eq hx hb hdec ht (fun z => absurd (by simpa [mcond] using z) q) (fun _ => kk ad H locs ls' ⟨hP, hD, hS, hI, hL, (sin_tl hT), hlr, hao, hnl⟩ (fun _ _ => rfl))
  | ne =>
    by_cases q : mcond .ne u 0 = true
    · have ha2 : jx pc off ls r a h = some (.inl (pc2, ls2, st2, a2, h2)) := by have h3 := ha; simp only [if_pos q] at h3; exact h3
      obtain ⟨t, ht, ha3⟩ := m_jx ha2
      cases ha3
      exact lv_if_ne hx hb hdec ht (fun _ => kk ad H locs ls' ⟨hP, hD, hS, hI, hL, (sin_tl hT), hlr, hao, hnl⟩ (fun _ _ => rfl)) (fun z => absurd z (by simpa [mcond] using q))
    · have ha2 : nx (pc + 3) ls r a h = some (.inl (pc2, ls2, st2, a2, h2)) := by have h3 := ha; simp only [if_neg q] at h3; exact h3
      cases ha2
      obtain ⟨t, ht⟩ : ∃ t : Nat, (pc : Int) + off = (t : Int) := ⟨_, (Int.toNat_of_nonneg hj).symm⟩
      exact lv_if_ne hx hb hdec ht (fun z => absurd (by simpa [mcond] using z) q) (fun _ => kk ad H locs ls' ⟨hP, hD, hS, hI, hL, (sin_tl hT), hlr, hao, hnl⟩ (fun _ _ => rfl))
  | lt =>
    by_cases q : mcond .lt u 0 = true
    · have ha2 : jx pc off ls r a h = some (.inl (pc2, ls2, st2, a2, h2)) := by have h3 := ha; simp only [if_pos q] at h3; exact h3
      obtain ⟨t, ht, ha3⟩ := m_jx ha2
      cases ha3
      exact lv_if_lt hx hb hdec ht (fun _ => kk ad H locs ls' ⟨hP, hD, hS, hI, hL, (sin_tl hT), hlr, hao, hnl⟩ (fun _ _ => rfl)) (fun z => absurd q (fun q => z (by simpa [mcond] using q)))
    · have ha2 : nx (pc + 3) ls r a h = some (.inl (pc2, ls2, st2, a2, h2)) := by have h3 := ha; simp only [if_neg q] at h3; exact h3
      cases ha2
      obtain ⟨t, ht⟩ : ∃ t : Nat, (pc : Int) + off = (t : Int) := ⟨_, (Int.toNat_of_nonneg hj).symm⟩
      exact lv_if_lt hx hb hdec ht (fun z => absurd (by simpa [mcond] using z) q) (fun _ => kk ad H locs ls' ⟨hP, hD, hS, hI, hL, (sin_tl hT), hlr, hao, hnl⟩ (fun _ _ => rfl))
  | ge =>
    by_cases q : mcond .ge u 0 = true
    · have ha2 : jx pc off ls r a h = some (.inl (pc2, ls2, st2, a2, h2)) := by have h3 := ha; simp only [if_pos q] at h3; exact h3
      obtain ⟨t, ht, ha3⟩ := m_jx ha2
      cases ha3
      exact lv_if_ge hx hb hdec ht (fun _ => kk ad H locs ls' ⟨hP, hD, hS, hI, hL, (sin_tl hT), hlr, hao, hnl⟩ (fun _ _ => rfl)) (fun z => absurd q (fun q => z (by simpa [mcond] using q)))
    · have ha2 : nx (pc + 3) ls r a h = some (.inl (pc2, ls2, st2, a2, h2)) := by have h3 := ha; simp only [if_neg q] at h3; exact h3
      cases ha2
      obtain ⟨t, ht⟩ : ∃ t : Nat, (pc : Int) + off = (t : Int) := ⟨_, (Int.toNat_of_nonneg hj).symm⟩
      exact lv_if_ge hx hb hdec ht (fun z => absurd (by simpa [mcond] using z) q) (fun _ => kk ad H locs ls' ⟨hP, hD, hS, hI, hL, (sin_tl hT), hlr, hao, hnl⟩ (fun _ _ => rfl))
  | gt =>
    by_cases q : mcond .gt u 0 = true
    · have ha2 : jx pc off ls r a h = some (.inl (pc2, ls2, st2, a2, h2)) := by have h3 := ha; simp only [if_pos q] at h3; exact h3
      obtain ⟨t, ht, ha3⟩ := m_jx ha2
      cases ha3
      exact lv_if_gt hx hb hdec ht (fun _ => kk ad H locs ls' ⟨hP, hD, hS, hI, hL, (sin_tl hT), hlr, hao, hnl⟩ (fun _ _ => rfl)) (fun z => absurd q (fun q => z (by simpa [mcond] using q)))
    · have ha2 : nx (pc + 3) ls r a h = some (.inl (pc2, ls2, st2, a2, h2)) := by have h3 := ha; simp only [if_neg q] at h3; exact h3
      cases ha2
      obtain ⟨t, ht⟩ : ∃ t : Nat, (pc : Int) + off = (t : Int) := ⟨_, (Int.toNat_of_nonneg hj).symm⟩
      exact lv_if_gt hx hb hdec ht (fun z => absurd (by simpa [mcond] using z) q) (fun _ => kk ad H locs ls' ⟨hP, hD, hS, hI, hL, (sin_tl hT), hlr, hao, hnl⟩ (fun _ _ => rfl))
  | le =>
    by_cases q : mcond .le u 0 = true
    · have ha2 : jx pc off ls r a h = some (.inl (pc2, ls2, st2, a2, h2)) := by have h3 := ha; simp only [if_pos q] at h3; exact h3
      obtain ⟨t, ht, ha3⟩ := m_jx ha2
      cases ha3
      exact lv_if_le hx hb hdec ht (fun _ => kk ad H locs ls' ⟨hP, hD, hS, hI, hL, (sin_tl hT), hlr, hao, hnl⟩ (fun _ _ => rfl)) (fun z => absurd q (fun q => z (by simpa [mcond] using q)))
    · have ha2 : nx (pc + 3) ls r a h = some (.inl (pc2, ls2, st2, a2, h2)) := by have h3 := ha; simp only [if_neg q] at h3; exact h3
      cases ha2
      obtain ⟨t, ht⟩ : ∃ t : Nat, (pc : Int) + off = (t : Int) := ⟨_, (Int.toNat_of_nonneg hj).symm⟩
      exact lv_if_le hx hb hdec ht (fun z => absurd (by simpa [mcond] using z) q) (fun _ => kk ad H locs ls' ⟨hP, hD, hS, hI, hL, (sin_tl hT), hlr, hao, hnl⟩ (fun _ _ => rfl))
set_option maxHeartbeats 1000000 in
theorem sd_ifnull {p : Program} {l : Launch} {e : Env} {R : Room} {s : State} {m : MethodId} {args : Array Value} {below : List Frame} {meth : Method} {c : Code} {H : Heap} {locs : List Loc} {Q : State → Prop} {A : Nat → Prop} {xs : List Int32} {sv : Value} {ao ad : Nat → Nat} {Z : ClassId × ClassId × ClassId} {D : va_G} {f : MInfo} {nL pc pc2 c0 s0 : Nat} {ls ls2 : ML} {st st2 : List Value} {a a2 : MA} {h h2 : MH} {ls' : Array Slot} {len x y : Nat} {cc : Int} {off : Int} (C : Cx p R s m args meth c A xs sv ao Z D f nL) (hdec : decode f.2.2.1 pc = .ok (.ifnull off, len)) (hl : len = 3) (hlk : LKb f (.ifnull off, len, x, y, cc) = true) (ha : mact (.ifnull off, len, x, y, cc) pc ls st a h = some (.inl (pc2, ls2, st2, a2, h2))) (hR : Rp s A xs sv ao Z D nL ad a.1 h H locs ls' ls st) (hc : a2.2.1 - c0 ≤ R.cells) (hs : a2.2.2 - s0 ≤ R.slots) (hc0 : c0 ≤ a.2.1) (hs0 : s0 ≤ a.2.2) (kk : ∀ (ad' : Nat → Nat) (H' : Heap) (locs' : List Loc) (ls'' : Array Slot), Rp s A xs sv ao Z D nL ad' a2.1 h2 H' locs' ls'' ls2 st2 → (∀ k, k < a.1 → ad' k = ad k) → W p l e R s m args below meth c H' locs' (a2.2.1 - c0) (a2.2.2 - s0) Q (F0 m pc2 ls'' (st2.map (tv sv ad')))) : W p l e R s m args below meth c H locs (a.2.1 - c0) (a.2.2 - s0) Q (F0 m pc ls' (st.map (tv sv ad))) := by
  subst hl
  obtain ⟨hx, hb, hml, hown, hts, hK, hA, hO, hin0, hfr, hlo, hsv⟩ := C
  obtain ⟨hP, hD, hS, hI, hL, hT, hlr, hao, hnl⟩ := hR
  rcases m_nr ha with ⟨r, rfl, ha⟩ | ⟨v, r, rfl, ha⟩
  · obtain ⟨t, ht, ha⟩ := m_jx (show jx pc off ls r a h = some _ from ha)
    cases ha
    exact lv_ifnullN hx hb hdec ht (kk ad H locs ls' ⟨hP, hD, hS, hI, hL, (sin_tl hT), hlr, hao, hnl⟩ (fun _ _ => rfl))
  · cases ha
    exact lv_ifnull hx hb hdec (kk ad H locs ls' ⟨hP, hD, hS, hI, hL, (sin_tl hT), hlr, hao, hnl⟩ (fun _ _ => rfl))
set_option maxHeartbeats 1000000 in
theorem sd_ifnonnull {p : Program} {l : Launch} {e : Env} {R : Room} {s : State} {m : MethodId} {args : Array Value} {below : List Frame} {meth : Method} {c : Code} {H : Heap} {locs : List Loc} {Q : State → Prop} {A : Nat → Prop} {xs : List Int32} {sv : Value} {ao ad : Nat → Nat} {Z : ClassId × ClassId × ClassId} {D : va_G} {f : MInfo} {nL pc pc2 c0 s0 : Nat} {ls ls2 : ML} {st st2 : List Value} {a a2 : MA} {h h2 : MH} {ls' : Array Slot} {len x y : Nat} {cc : Int} {off : Int} (C : Cx p R s m args meth c A xs sv ao Z D f nL) (hdec : decode f.2.2.1 pc = .ok (.ifnonnull off, len)) (hl : len = 3) (hlk : LKb f (.ifnonnull off, len, x, y, cc) = true) (ha : mact (.ifnonnull off, len, x, y, cc) pc ls st a h = some (.inl (pc2, ls2, st2, a2, h2))) (hR : Rp s A xs sv ao Z D nL ad a.1 h H locs ls' ls st) (hc : a2.2.1 - c0 ≤ R.cells) (hs : a2.2.2 - s0 ≤ R.slots) (hc0 : c0 ≤ a.2.1) (hs0 : s0 ≤ a.2.2) (kk : ∀ (ad' : Nat → Nat) (H' : Heap) (locs' : List Loc) (ls'' : Array Slot), Rp s A xs sv ao Z D nL ad' a2.1 h2 H' locs' ls'' ls2 st2 → (∀ k, k < a.1 → ad' k = ad k) → W p l e R s m args below meth c H' locs' (a2.2.1 - c0) (a2.2.2 - s0) Q (F0 m pc2 ls'' (st2.map (tv sv ad')))) : W p l e R s m args below meth c H locs (a.2.1 - c0) (a.2.2 - s0) Q (F0 m pc ls' (st.map (tv sv ad))) := by
  subst hl
  obtain ⟨hx, hb, hml, hown, hts, hK, hA, hO, hin0, hfr, hlo, hsv⟩ := C
  obtain ⟨hP, hD, hS, hI, hL, hT, hlr, hao, hnl⟩ := hR
  rcases m_nr ha with ⟨r, rfl, ha⟩ | ⟨v, r, rfl, ha⟩
  · cases ha
    exact lv_ifnonnullN hx hb hdec (kk ad H locs ls' ⟨hP, hD, hS, hI, hL, (sin_tl hT), hlr, hao, hnl⟩ (fun _ _ => rfl))
  · obtain ⟨t, ht, ha⟩ := m_jx (show jx pc off ls r a h = some _ from ha)
    cases ha
    exact lv_ifnonnull hx hb hdec ht (kk ad H locs ls' ⟨hP, hD, hS, hI, hL, (sin_tl hT), hlr, hao, hnl⟩ (fun _ _ => rfl))
set_option maxHeartbeats 1000000 in
theorem sd_tableswitch {p : Program} {l : Launch} {e : Env} {R : Room} {s : State} {m : MethodId} {args : Array Value} {below : List Frame} {meth : Method} {c : Code} {H : Heap} {locs : List Loc} {Q : State → Prop} {A : Nat → Prop} {xs : List Int32} {sv : Value} {ao ad : Nat → Nat} {Z : ClassId × ClassId × ClassId} {D : va_G} {f : MInfo} {nL pc pc2 c0 s0 : Nat} {ls ls2 : ML} {st st2 : List Value} {a a2 : MA} {h h2 : MH} {ls' : Array Slot} {len x y : Nat} {cc : Int} {d lo hi : Int} {offs : Array Int} (C : Cx p R s m args meth c A xs sv ao Z D f nL) (hdec : decode f.2.2.1 pc = .ok (.tableswitch d lo hi offs, len)) (hl : len = len) (hlk : LKb f (.tableswitch d lo hi offs, len, x, y, cc) = true) (ha : mact (.tableswitch d lo hi offs, len, x, y, cc) pc ls st a h = some (.inl (pc2, ls2, st2, a2, h2))) (hR : Rp s A xs sv ao Z D nL ad a.1 h H locs ls' ls st) (hc : a2.2.1 - c0 ≤ R.cells) (hs : a2.2.2 - s0 ≤ R.slots) (hc0 : c0 ≤ a.2.1) (hs0 : s0 ≤ a.2.2) (kk : ∀ (ad' : Nat → Nat) (H' : Heap) (locs' : List Loc) (ls'' : Array Slot), Rp s A xs sv ao Z D nL ad' a2.1 h2 H' locs' ls'' ls2 st2 → (∀ k, k < a.1 → ad' k = ad k) → W p l e R s m args below meth c H' locs' (a2.2.1 - c0) (a2.2.2 - s0) Q (F0 m pc2 ls'' (st2.map (tv sv ad')))) : W p l e R s m args below meth c H locs (a.2.1 - c0) (a.2.2 - s0) Q (F0 m pc ls' (st.map (tv sv ad))) := by
  obtain ⟨hx, hb, hml, hown, hts, hK, hA, hO, hin0, hfr, hlo, hsv⟩ := C
  obtain ⟨hP, hD, hS, hI, hL, hT, hlr, hao, hnl⟩ := hR
  obtain ⟨v, r, rfl, ha⟩ := m_i ha
  have ha := (show (match msw v lo hi d offs with | some off => jx pc off ls r a h | none => none) = some _ from ha)
  obtain ⟨off, ho, ha⟩ := m_oO (o := msw v lo hi d offs) (F := fun off => jx pc off ls r a h) ha
  obtain ⟨t, ht, ha⟩ := m_jx ha
  cases ha
  unfold msw at ho
  split at ho
  · rename_i q
    cases ho
    exact lv_tableOut hx hb hdec q ht (kk ad H locs ls' ⟨hP, hD, hS, hI, hL, (sin_tl hT), hlr, hao, hnl⟩ (fun _ _ => rfl))
  · rename_i q
    exact lv_tableIn hx hb hdec (fun z => q (Or.inl z)) (fun z => q (Or.inr z)) ho ht (kk ad H locs ls' ⟨hP, hD, hS, hI, hL, (sin_tl hT), hlr, hao, hnl⟩ (fun _ _ => rfl))
