/-! ===== any instruction ===== -/
theorem mcall_nl {k n : Nat} {c : Int} {pc : Nat} {ls : ML} {st : List Value} {a : MA} {h : MH} {M' : Nat} {z : MS} (e : mcall k n c pc ls st a h M' = some (.inl z)) : False := by
  delta mcall at e
  repeat' split at e
  all_goals (cases e)
set_option maxHeartbeats 4000000 in
theorem snd_step {p : Program} {l : Launch} {e : Env} {R : Room} {s : State} {m : MethodId} {args : Array Value} {below : List Frame} {meth : Method} {c : Code} {H : Heap} {locs : List Loc} {Q : State → Prop} {A : Nat → Prop} {xs : List Int32} {sv : Value} {ao ad : Nat → Nat} {Z : ClassId × ClassId × ClassId} {D : va_G} {f : MInfo} {nL pc pc2 c0 s0 : Nat} {ls ls2 : ML} {st st2 : List Value} {a a2 : MA} {h h2 : MH} {ls' : Array Slot} {i : MI} (C : Cx p R s m args meth c A xs sv ao Z D f nL) (hok : OKb f (pc, i) = true) (hj : jok pc i.1 = true) (ha : mact i pc ls st a h = some (.inl (pc2, ls2, st2, a2, h2))) (hR : Rp s A xs sv ao Z D nL ad a.1 h H locs ls' ls st) (hc : a2.2.1 - c0 ≤ R.cells) (hs : a2.2.2 - s0 ≤ R.slots) (hc0 : c0 ≤ a.2.1) (hs0 : s0 ≤ a.2.2) (kk : ∀ (ad' : Nat → Nat) (H' : Heap) (locs' : List Loc) (ls'' : Array Slot), Rp s A xs sv ao Z D nL ad' a2.1 h2 H' locs' ls'' ls2 st2 → (∀ k, k < a.1 → ad' k = ad k) → W p l e R s m args below meth c H' locs' (a2.2.1 - c0) (a2.2.2 - s0) Q (F0 m pc2 ls'' (st2.map (tv sv ad')))) : W p l e R s m args below meth c H locs (a.2.1 - c0) (a.2.2 - s0) Q (F0 m pc ls' (st.map (tv sv ad))) := by
  obtain ⟨ins, len, x, y, cc⟩ := i
  obtain ⟨hd, hl, hk⟩ := OKb_spec hok
  cases ins
  case iconst v => exact sd_iconst C hd (by simpa [isSw, mlength] using hl) hk ha hR hc hs hc0 hs0 kk
  case bipush v => exact sd_bipush C hd (by simpa [isSw, mlength] using hl) hk ha hR hc hs hc0 hs0 kk
  case sipush v => exact sd_sipush C hd (by simpa [isSw, mlength] using hl) hk ha hR hc hs hc0 hs0 kk
  case lconst v => exact sd_lconst C hd (by simpa [isSw, mlength] using hl) hk ha hR hc hs hc0 hs0 kk
  case aconst_null => exact sd_aconst_null C hd (by simpa [isSw, mlength] using hl) hk ha hR hc hs hc0 hs0 kk
  case iload k => exact sd_iload C hd (by simpa [isSw, mlength] using hl) hk ha hR hc hs hc0 hs0 kk
  case iload_n k => exact sd_iload_n C hd (by simpa [isSw, mlength] using hl) hk ha hR hc hs hc0 hs0 kk
  case lload k => exact sd_lload C hd (by simpa [isSw, mlength] using hl) hk ha hR hc hs hc0 hs0 kk
  case lload_n k => exact sd_lload_n C hd (by simpa [isSw, mlength] using hl) hk ha hR hc hs hc0 hs0 kk
  case aload k => exact sd_aload C hd (by simpa [isSw, mlength] using hl) hk ha hR hc hs hc0 hs0 kk
  case aload_n k => exact sd_aload_n C hd (by simpa [isSw, mlength] using hl) hk ha hR hc hs hc0 hs0 kk
  case istore k => exact sd_istore C hd (by simpa [isSw, mlength] using hl) hk ha hR hc hs hc0 hs0 kk
  case istore_n k => exact sd_istore_n C hd (by simpa [isSw, mlength] using hl) hk ha hR hc hs hc0 hs0 kk
  case astore k => exact sd_astore C hd (by simpa [isSw, mlength] using hl) hk ha hR hc hs hc0 hs0 kk
  case astore_n k => exact sd_astore_n C hd (by simpa [isSw, mlength] using hl) hk ha hR hc hs hc0 hs0 kk
  case lstore k => exact sd_lstore C hd (by simpa [isSw, mlength] using hl) hk ha hR hc hs hc0 hs0 kk
  case lstore_n k => exact sd_lstore_n C hd (by simpa [isSw, mlength] using hl) hk ha hR hc hs hc0 hs0 kk
  case iinc k d => exact sd_iinc C hd (by simpa [isSw, mlength] using hl) hk ha hR hc hs hc0 hs0 kk
  case iadd => exact sd_iadd C hd (by simpa [isSw, mlength] using hl) hk ha hR hc hs hc0 hs0 kk
  case isub => exact sd_isub C hd (by simpa [isSw, mlength] using hl) hk ha hR hc hs hc0 hs0 kk
  case imul => exact sd_imul C hd (by simpa [isSw, mlength] using hl) hk ha hR hc hs hc0 hs0 kk
  case iand => exact sd_iand C hd (by simpa [isSw, mlength] using hl) hk ha hR hc hs hc0 hs0 kk
  case ior => exact sd_ior C hd (by simpa [isSw, mlength] using hl) hk ha hR hc hs hc0 hs0 kk
  case ishl => exact sd_ishl C hd (by simpa [isSw, mlength] using hl) hk ha hR hc hs hc0 hs0 kk
  case ishr => exact sd_ishr C hd (by simpa [isSw, mlength] using hl) hk ha hR hc hs hc0 hs0 kk
  case iushr => exact sd_iushr C hd (by simpa [isSw, mlength] using hl) hk ha hR hc hs hc0 hs0 kk
  case idiv => exact sd_idiv C hd (by simpa [isSw, mlength] using hl) hk ha hR hc hs hc0 hs0 kk
  case irem => exact sd_irem C hd (by simpa [isSw, mlength] using hl) hk ha hR hc hs hc0 hs0 kk
  case lmul => exact sd_lmul C hd (by simpa [isSw, mlength] using hl) hk ha hR hc hs hc0 hs0 kk
  case ldiv => exact sd_ldiv C hd (by simpa [isSw, mlength] using hl) hk ha hR hc hs hc0 hs0 kk
  case lrem => exact sd_lrem C hd (by simpa [isSw, mlength] using hl) hk ha hR hc hs hc0 hs0 kk
  case lcmp => exact sd_lcmp C hd (by simpa [isSw, mlength] using hl) hk ha hR hc hs hc0 hs0 kk
  case ineg => exact sd_ineg C hd (by simpa [isSw, mlength] using hl) hk ha hR hc hs hc0 hs0 kk
  case i2b => exact sd_i2b C hd (by simpa [isSw, mlength] using hl) hk ha hR hc hs hc0 hs0 kk
  case i2s => exact sd_i2s C hd (by simpa [isSw, mlength] using hl) hk ha hR hc hs hc0 hs0 kk
  case i2c => exact sd_i2c C hd (by simpa [isSw, mlength] using hl) hk ha hR hc hs hc0 hs0 kk
  case i2l => exact sd_i2l C hd (by simpa [isSw, mlength] using hl) hk ha hR hc hs hc0 hs0 kk
  case dup => exact sd_dup C hd (by simpa [isSw, mlength] using hl) hk ha hR hc hs hc0 hs0 kk
  case dup2 => exact sd_dup2 C hd (by simpa [isSw, mlength] using hl) hk ha hR hc hs hc0 hs0 kk
  case dup_x1 => exact sd_dup_x1 C hd (by simpa [isSw, mlength] using hl) hk ha hR hc hs hc0 hs0 kk
  case pop => exact sd_pop C hd (by simpa [isSw, mlength] using hl) hk ha hR hc hs hc0 hs0 kk
  case goto off => exact sd_goto C hd (by simpa [isSw, mlength] using hl) hk ha hR hc hs hc0 hs0 kk
  case if_icmp k off => exact sd_if_icmp (of_decide_eq_true hj) C hd (by simpa [isSw, mlength] using hl) hk ha hR hc hs hc0 hs0 kk
  case ifCond k off => exact sd_ifCond (of_decide_eq_true hj) C hd (by simpa [isSw, mlength] using hl) hk ha hR hc hs hc0 hs0 kk
  case ifnull off => exact sd_ifnull C hd (by simpa [isSw, mlength] using hl) hk ha hR hc hs hc0 hs0 kk
  case ifnonnull off => exact sd_ifnonnull C hd (by simpa [isSw, mlength] using hl) hk ha hR hc hs hc0 hs0 kk
  case tableswitch d lo hi offs => exact sd_tableswitch C hd rfl hk ha hR hc hs hc0 hs0 kk
  case ldc_w k => exact sd_ldc_w C hd (by simpa [isSw, mlength] using hl) hk ha hR hc hs hc0 hs0 kk
  case ldc2_w k => exact sd_ldc2_w C hd (by simpa [isSw, mlength] using hl) hk ha hR hc hs hc0 hs0 kk
  case ldc k => exact sd_ldc C hd (by simpa [isSw, mlength] using hl) hk ha hR hc hs hc0 hs0 kk
  case getstatic k => exact sd_getstatic C hd (by simpa [isSw, mlength] using hl) hk ha hR hc hs hc0 hs0 kk
  case getfield k => exact sd_getfield C hd (by simpa [isSw, mlength] using hl) hk ha hR hc hs hc0 hs0 kk
  case putfield k => exact sd_putfield C hd (by simpa [isSw, mlength] using hl) hk ha hR hc hs hc0 hs0 kk
  case iaload => exact sd_iaload C hd (by simpa [isSw, mlength] using hl) hk ha hR hc hs hc0 hs0 kk
  case baload => exact sd_baload C hd (by simpa [isSw, mlength] using hl) hk ha hR hc hs hc0 hs0 kk
  case iastore => exact sd_iastore C hd (by simpa [isSw, mlength] using hl) hk ha hR hc hs hc0 hs0 kk
  case aaload => exact sd_aaload C hd (by simpa [isSw, mlength] using hl) hk ha hR hc hs hc0 hs0 kk
  case aastore => exact sd_aastore C hd (by simpa [isSw, mlength] using hl) hk ha hR hc hs hc0 hs0 kk
  case arraylength => exact sd_arraylength C hd (by simpa [isSw, mlength] using hl) hk ha hR hc hs hc0 hs0 kk
  case new k => exact sd_new C hd (by simpa [isSw, mlength] using hl) hk ha hR hc hs hc0 hs0 kk
  case newarray ty => exact sd_newarray C hd (by simpa [isSw, mlength] using hl) hk ha hR hc hs hc0 hs0 kk
  case anewarray k => exact sd_anewarray C hd (by simpa [isSw, mlength] using hl) hk ha hR hc hs hc0 hs0 kk
  case invokestatic k =>
    by_cases hx : x = 9998
    · exact sd_copy hx C hd (by simpa [isSw, mlength] using hl) hk ha hR hc hs hc0 hs0 kk
    · exfalso
      delta mact at ha; dsimp only at ha
      rw [if_neg hx] at ha
      exact mcall_nl ha
  case invokespecial k =>
    by_cases hx : x = 9999
    · exact sd_oinit hx C hd (by simpa [isSw, mlength] using hl) hk ha hR hc hs hc0 hs0 kk
    · exfalso
      delta mact at ha; dsimp only at ha
      rw [if_neg hx] at ha
      exact mcall_nl ha
  case invokevirtual k =>
    exfalso
    delta mact at ha; dsimp only at ha
    exact mcall_nl ha
  all_goals (exfalso; delta mact at ha; dsimp only at ha)
  all_goals (repeat' split at ha)
  all_goals (cases ha)
