/-! ===== what the statement gives of the start: strings, static rows, classes; the whole claim ===== -/
abbrev gvn : Jvm.Cond := Jvm.Cond.and given_1 narrow_1
abbrev stm (i : Nat) : Term := .string "SoakTub$TextReader" (sidx i)
abbrev sfv (i : Nat) : Term := .field (stm i) "java/lang/String" "value" "[B"
abbrev kab : Term := .static "SoakTub" "KIND_ABOVE" "[I"
set_option maxRecDepth 100000 in
theorem gv_ex : ∀ i, i < 13 → Cond.exactly (stm i) "java/lang/String" ∈ flatC gvn := by decide +kernel
set_option maxRecDepth 100000 in
theorem gv_co : ∀ i, i < 13 → Cond.eq (.field (stm i) "java/lang/String" "coder" "B") (.int 0) ∈ flatC gvn := by decide +kernel
set_option maxRecDepth 100000 in
theorem gv_ar : ∀ i, i < 13 → Cond.arrayOf (sfv i) .byte ∈ flatC gvn := by decide +kernel
set_option maxRecDepth 100000 in
theorem gv_le : ∀ i, i < 13 → Cond.eq (.length (sfv i)) (.int (Int32.ofNat (slen.getD i 0))) ∈ flatC gvn := by decide +kernel
set_option maxRecDepth 100000 in
theorem gv_el : ∀ i, i < 13 → ∀ j, j < slen.getD i 0 → Cond.eq (.elem (sfv i) (.int (Int32.ofNat j))) (.int ((sbyt.getD i []).getD j 0)) ∈ flatC gvn := by decide +kernel
def neW : List Cond := (List.range 13).flatMap fun j => (List.range j).map fun i => Cond.not (Cond.eq (stm i) (stm j))
set_option maxRecDepth 100000 in
theorem neW_in : neW = ([51, 60, 61, 71, 72, 73, 83, 84, 85, 86, 96, 97, 98, 99, 100, 110, 111, 112, 113, 114, 115, 122, 123, 124, 125, 126, 127, 128, 135, 136, 137, 138, 139, 140, 141, 142, 152, 153, 154, 155, 156, 157, 158, 159, 160, 168, 169, 170, 171, 172, 173, 174, 175, 176, 177, 185, 186, 187, 188, 189, 190, 191, 192, 193, 194, 195, 204, 205, 206, 207, 208, 209, 210, 211, 212, 213, 214, 215] : List Nat).filterMap (fun i => (flatC gvn)[i]?) := by decide +kernel
theorem gv_nl {i j : Nat} (hj : j < 13) (h : i < j) : Cond.not (Cond.eq (stm i) (stm j)) ∈ flatC gvn :=
  fm_in neW_in _ (List.mem_flatMap.mpr ⟨j, List.mem_range.mpr hj, List.mem_map.mpr ⟨i, List.mem_range.mpr h, rfl⟩⟩)
theorem gv_ne : ∀ i, i < 13 → ∀ j, j < 13 → i ≠ j → Cond.not (Cond.eq (stm i) (stm j)) ∈ flatC gvn ∨ Cond.not (Cond.eq (stm j) (stm i)) ∈ flatC gvn := fun i hi j hj hn => by
  rcases Nat.lt_or_gt_of_ne hn with h | h
  · exact Or.inl (gv_nl hj h)
  · exact Or.inr (gv_nl hi h)
set_option maxRecDepth 100000 in
theorem gv_cs : Cond.eq (.static "java/lang/String" "COMPACT_STRINGS" "Z") (.int 1) ∈ flatC gvn := by decide +kernel
set_option maxRecDepth 100000 in
theorem gv_fm : Cond.isRef (.static "jdk/internal/util/Preconditions" "SIOOBE_FORMATTER" "Ljava/util/function/BiFunction;") ∈ flatC gvn := by decide +kernel
set_option maxRecDepth 100000 in
theorem gv_ka : Cond.arrayOf kab .int ∈ flatC gvn ∧ Cond.eq (.length kab) (.int (Int32.ofNat 7)) ∈ flatC gvn := by decide +kernel
def kaI : List Int32 := [-1, 0, 0, 2, 3, 0, 5]
set_option maxRecDepth 100000 in
theorem gv_ke : ∀ j, j < 7 → Cond.eq (.elem kab (.int (Int32.ofNat j))) (.int (kaI.getD j 0)) ∈ flatC gvn := by decide +kernel
theorem ka_get : ∀ j, j < 7 → (.int (kaI.getD j 0) : Value) = kaL.getD j .null := by
  intro j hj
  have c : j = 0 ∨ j = 1 ∨ j = 2 ∨ j = 3 ∨ j = 4 ∨ j = 5 ∨ j = 6 := by omega
  rcases c with rfl | rfl | rfl | rfl | rfl | rfl | rfl <;> rfl
set_option maxRecDepth 100000 in
theorem tb_sr : ∀ i, i < 13 → Cond.stringRef "SoakTub$TextReader" (sidx i) (stx i) ∈ lw_tbl := by decide +kernel
set_option maxRecDepth 100000 in
theorem tb_ls : Cond.laysStatic "java/lang/String" "COMPACT_STRINGS" "Z" ∈ lw_tbl ∧ Cond.laysStatic "jdk/internal/util/Preconditions" "SIOOBE_FORMATTER" "Ljava/util/function/BiFunction;" ∈ lw_tbl ∧ Cond.laysStatic "SoakTub" "KIND_ABOVE" "[I" ∈ lw_tbl := by decide +kernel
set_option maxRecDepth 100000 in
theorem tb_in : Cond.initialized "java/lang/String" ∈ lw_tbl ∧ Cond.initialized "jdk/internal/util/Preconditions" ∈ lw_tbl ∧ Cond.initialized "SoakTub" ∈ lw_tbl := by decide +kernel
set_option maxRecDepth 100000 in
theorem tb_ao : Cond.arrayOver (.object "SoakTub$Thing") ∈ lw_tbl ∧ Cond.arrayOver (.object "SoakTub$Sheet") ∈ lw_tbl ∧ Cond.arrayClass .int ∈ lw_tbl := by decide +kernel
set_option maxRecDepth 100000 in
theorem tb_ne : ∀ q ∈ nests, Cond.methodLinkNest (mown q.1) q.2.1 q.2.2 "SoakTub" ∈ lw_tbl := by decide +kernel
theorem wt_lw {w : Cond} (h : w ∈ wtbl) : w ∈ lw_tbl := (List.mem_filter.mp h).1
/-- the classes, as the tables have them -/
theorem start_K {s : State} {args : Array Value} (hts : ∀ w ∈ lw_tbl, w.before args s = true) : ∃ (D : va_G) (Z : ClassId × ClassId × ClassId), va_K D vwCl (tysZ Z) s := by
  have hw : ∀ w ∈ wtbl, w.before args s = true := fun w h => hts w (wt_lw h)
  have h0 : ∀ c : Nat, ∃ q : ClassId × (Nat → Nat), c < 7 → u_Kn s (mown c) (clsT c).1 (clsT c).2.2 q.1 q.2 := fun c => by
    by_cases hc : c < 7
    · obtain ⟨a, b, h⟩ := u_known hw (uws_in c hc) (inst_ok hw c hc).1
      exact ⟨(a, b), fun _ => h⟩
    · exact ⟨(0, fun _ => 0), fun h => absurd h hc⟩
  obtain ⟨f, hf⟩ := Classical.axiomOfChoice h0
  obtain ⟨cI, kI, cpI, i1, i2, i3⟩ := Cond.arrayClass_spec (hts _ tb_ao.2.2)
  obtain ⟨cpT, cT, kT, t1, t2, t3, t4, t5⟩ := Cond.arrayOver_spec (hts _ tb_ao.1)
  obtain ⟨cpS, cS, kS, s1, s2, s3, s4, s5⟩ := Cond.arrayOver_spec (hts _ tb_ao.2.1)
  refine ⟨(fun c => (f c).1, fun c => (f c).2), (cI, cT, cS), fun c q hq => ?_, fun k q hq => ?_⟩
  · match c, hq with
    | 0, hq => cases hq; exact hf 0 (by decide)
    | 1, hq => cases hq; exact hf 1 (by decide)
    | 2, hq => cases hq; exact hf 2 (by decide)
    | 3, hq => cases hq; exact hf 3 (by decide)
    | 4, hq => cases hq; exact hf 4 (by decide)
    | 5, hq => cases hq; exact hf 5 (by decide)
    | 6, hq => cases hq; exact hf 6 (by decide)
    | c + 7, hq => exact nomatch hq
  · match k, hq with
    | 0, hq => cases hq; exact ⟨fun n z => ⟨fun k h => (by cases h), kI, i2, cpI, i3⟩, i1⟩
    | 1, hq => cases hq; exact ⟨fun n z => ⟨fun k h => (by cases h), kT, t3, cpT, t4⟩, kT, cpT, t3, t4, t1, t5⟩
    | 2, hq => cases hq; exact ⟨fun n z => ⟨fun k h => (by cases h), kS, s3, cpS, s4⟩, kS, cpS, s3, s4, s1, s5⟩
    | k + 3, hq => exact nomatch hq
/-- the outside -/
theorem start_O {s : State} {args : Array Value} {b L : Nat} {xs : Nat → Int32} {xl : List Int32} (hts : ∀ w ∈ lw_tbl, w.before args s = true) (hgv : gvn.before args s = true) (hX : va_X b L xs s s.heap) (hbl : b < s.heap.size) (hl : xl.length = L) (hx : ∀ j, j < L → xl.getD j 0 = xs j) : ∃ (sv : Value) (ao : Nat → Nat), sv.category = 1 ∧ ao 1200 = b ∧ OutS sv ao xl (fun q => s.heap.size ≤ q) s s.heap := by
  have hfl := flat_of_before _ hgv
  have hA : ∀ a : Nat, a < s.heap.size → ¬ s.heap.size ≤ a := fun a h => Nat.not_le.mpr h
  obtain ⟨adK, adV, hS, hTm⟩ := vk_Sof (args := args) (s := s) (A := fun q => s.heap.size ≤ q) (N := 13) (tm := stm) (len := slen) (byt := sbyt) (by decide) (fun i hi => hfl _ (gv_ex i hi)) (fun i hi => hfl _ (gv_co i hi)) (fun i hi => hfl _ (gv_ar i hi)) (fun i hi => hfl _ (gv_le i hi)) (fun i hi j hj => hfl _ (gv_el i hi j hj)) (fun i j hi hj hn => (gv_ne i hi j hj hn).imp (hfl _) (hfl _)) hA
  obtain ⟨sv, hsv, hrf⟩ := Cond.isRef_spec (hfl _ gv_fm)
  obtain ⟨t, ht, hT⟩ := va_Tof (args := args) (s := s) (tm := kab) (ty := .int) (N := 7) (f := fun j => kaL.getD j .null) (A := fun q => s.heap.size ≤ q) (by decide) (hfl _ gv_ka.1) (va_eqt (hfl _ gv_ka.2)) (fun j hj => by rw [← ka_get j hj]; exact va_eqt (hfl _ (gv_ke j hj))) hA
  obtain ⟨scr, x1, x2, x3, x4, x5⟩ := hX
  let ao : Nat → Nat := fun q => if q = 1200 then b else if q = 1300 then t else if q < 1013 then adK (q - 1000) else adV (q - 1100)
  have eK : ∀ i, i < 13 → ao (1000 + i) = adK i := fun i hi => by
    show (if _ then b else if _ then t else if _ then adK (1000 + i - 1000) else _) = _
    rw [if_neg (by omega), if_neg (by omega), if_pos (by omega), Nat.add_sub_cancel_left]
  have eV : ∀ i, i < 13 → ao (1100 + i) = adV i := fun i hi => by
    show (if _ then b else if _ then t else if _ then adK (1100 + i - 1000) else adV (1100 + i - 1100)) = _
    rw [if_neg (by omega), if_neg (by omega), if_neg (by omega), Nat.add_sub_cancel_left]
  refine ⟨sv, ao, ?_, rfl, ⟨fun i hi => ?_, fun i j hi hj e => ?_⟩, fun i hi => ?_, ?_, ?_, ?_, ?_, ?_, ?_, ?_, fun q hq => ?_⟩
  · cases sv <;> first | rfl | cases hrf
  · show va_O _ (ao (1000 + i)) _ _ _ ∧ va_OF _ _ _ _ (ao (1000 + i)) _ _ _ ∧ va_OF _ _ _ (.ref (ao (1100 + i))) (ao (1000 + i)) _ _ _ ∧ va_T _ (ao (1100 + i)) _ _ _ _ _
    rw [eK i hi, eV i hi]; exact hS.1 i hi
  · have e : ao (1000 + i) = ao (1000 + j) := e
    rw [eK i hi, eK j hj] at e; exact hS.2 i j hi hj e
  · rw [eK i hi]; exact ⟨hts _ (tb_sr i hi), hTm i hi⟩
  · exact va_Zof (hts _ tb_ls.1) (hts _ tb_in.1) (va_eqi (hfl _ gv_cs)) hA
  · exact va_Zof (hts _ tb_ls.2.1) (hts _ tb_in.2.1) hsv hA
  · exact va_Zof (hts _ tb_ls.2.2) (hts _ tb_in.2.2) ht hA
  · exact hT
  · exact ⟨scr, x1, x2, x3, by rw [x4, hl]; exact Nat.le_refl _, by rw [x4, hl], fun j hj => by show scr.slots[j]? = some (.int (xl.getD j 0)); rw [hx j (by omega)]; exact x5 j (by omega), hA b hbl⟩
  · exact va_AO.of (hts _ tb_ao.1)
  · exact va_AO.of (hts _ tb_ao.2.1)
  · exact va_Nw.of rfl (hts _ (tb_ne q hq))
abbrev fLaw : MInfo := (12, ⟨"SoakTubLaw", "law", "([I)Z"⟩, code, some .boolean, 11, 0)
/-! THE CLAIM OUT OF ONE WALK OF THE LAW'S BODY. Your part is whole_start (and what it stands on); all else here is the same for every law, but numbers. -/
def R_law : String := "SoakTubLaw"
def lw_P (b : Addr) (xs : List Int32) (args : Array Value) (s : State) : Prop := args = #[.ref b] ∧ s.IntsAt b xs ∧ xs.length ≤ 3072 ∧ (Jvm.Cond.and given_1 narrow_1).before args s = true
def lw_Q (_ : Array Value) (s : State) (o : Outcome) (t : State) : Prop := o = .returned (some (.int 1)) ∧ Framed s o t [] 600000 7302250
def lw_Z (below : List Frame) (a : Array Value) (s : State) : State → Prop := fun t => ∃ o, t.status = .running ∧ Ended t below o ∧ lw_Q a s o t
/-- the law's own end, with 1 on the stack, nothing written that was there before, its room as the claim has it -/
theorem lw_ret {p : Program} {l : Launch} {e : Env} {s : State} {m : MethodId} {below : List Frame} {meth : Method} {c : Code} {b : Nat} (hx : p.tables.exec = Jvm.exec) (hb : c.code = code) (hr : meth.sig.returnType = ret) (hlocks : meth.locks = false) {pc : Nat} {H : Heap} {ls : Array Slot} (hdg : decode code pc = .ok (.ireturn, 1)) : W p l e room_1 s m #[Value.ref b] below meth c H [] 600000 7302250 (lw_Z below #[Value.ref b] s) (F0 m pc ls [.int 1]) := by
  intro T hT X
  obtain ⟨fs, hret, hrun, hended, hW, hframe⟩ := X.leave (v := some (.int 1)) (hlocks := hlocks) (fun h => by rw [hr] at h; cases h)
  have hmeth' : T.vm.method? m = some meth := X.method'
  refine ⟨T.setFrames fs, ?_, .returned (some (.int 1)), hrun, hended, rfl, ⟨_, rfl⟩, hW, hframe⟩
  jvm_step X.here [X.here.top, hx, hb, hdg, hmeth', hr, ret, narrow_b1]
  (try refine ⟨rfl, ?_⟩); (try refine ⟨rfl, ?_⟩)
  first | (intro acts; rw [hret _ acts rfl rfl rfl]) | rw [hret _ _ rfl rfl rfl]
  exact Steps.refl _
/-- what holds at the law's entry: the machine, the code, the tables' words (any of lw_tbl by 'hts w (by decide +kernel)'), the script of L ints xs at the cell b, what the Statement gives of the start (any of its parts by flat_of_before) -/
def lw_At (p : Program) (s : State) (m : MethodId) (meth : Method) (c : Code) (b L : Nat) (xs : Nat → Int32) : Prop :=
  p.tables.exec = Jvm.exec ∧ c.code = code ∧ meth.sig.returnType = ret ∧ c.maxLocals = 4 ∧ s.vm.findClass R_law = some m.cls ∧ (∀ w ∈ lw_tbl, w.before #[Value.ref b] s = true) ∧ va_X b L xs s s.heap ∧ b < s.heap.size ∧ meth.locks = false ∧ (Jvm.Cond.and given_1 narrow_1).before #[Value.ref b] s = true
set_option maxHeartbeats 4000000 in
theorem whole_start {p : Program} {e : Env} {s : State} {m : MethodId} {below : List Frame} {meth : Method} {c : Code} (l : Launch) (hflags : l.flags = flags0) {b L : Nat} {xs : Nat → Int32} (hL : L ≤ 3072) (C0 : lw_At p s m meth c b L xs) : W p l e room_1 s m #[Value.ref b] below meth c s.heap [] 0 0 (lw_Z below #[Value.ref b] s) (entryFrame m ([Value.ref b] : List Value).toArray 4) := by
  obtain ⟨hx, hb, hr, hml, hown, hts, hX, hbl, hlocks, hgv⟩ := C0
  have hlen : ((List.range L).map xs).length = L := by rw [List.length_map, List.length_range]
  have hget : ∀ j, j < L → ((List.range L).map xs).getD j 0 = xs j := fun j hj => by
    rw [List.getD_eq_getElem?_getD, List.getElem?_map, List.getElem?_range hj]; rfl
  generalize (List.range L).map xs = xl at hlen hget
  obtain ⟨sv, ao, hsv, hab, hO⟩ := start_O hts hgv hX hbl hlen hget
  obtain ⟨D, Z, hK⟩ := start_K hts
  obtain ⟨h', hrn⟩ := law_all (xs := xl) (by omega)
  obtain ⟨n, hrun⟩ := Rn_iff.mp hrn
  have hl := lv_entry ([Value.ref b]) (n := 4) (Nat.le_of_ble_eq_true rfl)
  rw [lg_entry_eq]
  generalize (lg_sl ([Value.ref b]) ++ List.replicate (4 - (lg_sl ([Value.ref b])).length) Slot.unset).toArray = ls' at hl ⊢
  have eb : ([Value.ref b] : List Value) = [Value.ref 1200].map (tv sv ao) := by
    show [Value.ref b] = [Value.ref (ao 1200)]
    rw [hab]
  have hlr : lrep (tv sv ao) ls' [some (.ref 1200), none, none, none] := by
    show lv_has ls' 4 (lp (tv sv ao) (mlay [.ref 1200] ++ List.replicate 3 none) 0)
    rw [lp_mini (tv_catf hsv), ← eb]
    exact hl
  have C : Cx p room_1 s m #[Value.ref b] meth c (fun q => s.heap.size ≤ q) xl sv ao Z D fLaw 4 :=
    ⟨hx, hb, hml, hown, fun w hw => hts w (wt_lw hw), hK, fun q h => h, hO, fun h => absurd h (by decide), Nat.le_of_ble_eq_true rfl, Nat.le_of_ble_eq_true rfl, hsv⟩
  have hI : hin xl 0 (outc xl) := by
    refine ⟨by omega, fun q hq => absurd hq (by omega), fun q _ h2 => ?_, fun q _ => rfl⟩
    unfold outc
    rw [if_neg (by omega), if_neg (by omega), if_neg (by omega), if_neg (by omega)]
  have R0 : Rp s (fun q => s.heap.size ≤ q) xl sv ao Z D 4 ao 0 (outc xl) s.heap [] ls' [some (.ref 1200), none, none, none] [] := by
    have ew : wsl Z sv ao 0 (outc xl) = [] := rfl
    have hP : va_P D vwCl (wsl Z sv ao 0 (outc xl)) s.heap := by
      rw [ew]; intro k q h; simp at h
    have hD : va_D (fun q => s.heap.size ≤ q) (wsl Z sv ao 0 (outc xl)) := by
      rw [ew]; exact ⟨fun i j p q h => by simp at h, fun k q h => by simp at h⟩
    have hs : sin 0 ([] : List Value) := fun v hv => absurd hv List.not_mem_nil
    refine ⟨hP, hD, va_S.rf, hI, fun v hv => ?_, hs, hlr, fun _ _ => rfl, rfl⟩
    have e : v = .ref 1200 := by
      simp only [List.mem_cons, Option.some.injEq, reduceCtorEq, List.not_mem_nil, or_false] at hv
      exact hv
    rw [e]; exact Or.inr (by decide)
  refine snd_all l n 236 0 [some (.ref 1200), none, none, none] [] (0, 0, 0) (outc xl) _ hrun (by decide) rfl fLaw rfl p e room_1 s m #[Value.ref b] below meth c s.heap [] (lw_Z below #[Value.ref b] s) (fun q => s.heap.size ≤ q) xl sv ao ao Z D 0 0 ls' C R0 (Nat.le_refl _) (Nat.le_refl _) (Nat.le_of_ble_eq_true rfl) (Nat.le_of_ble_eq_true rfl) ?_
  intro pc' ad' H' locs' ls'' _ _ _ _ hS' _ _ hret
  refine va_forget hS'.2.2 (W.widen (k := 600000) (n := 7302250) (Nat.le_of_ble_eq_true rfl) (Nat.le_of_ble_eq_true rfl) ?_)
  exact lw_ret hx hb hr hlocks hret.1
set_option maxHeartbeats 4000000 in
theorem lw_walk (l : Launch) (hflags : l.flags = flags0) (b : Addr) (xs : List Int32) : MetFree l x (headSpec (Jvm.Cond.code x code maxLocals ret :: tables_1) room_1) (lw_P b xs) (fun _ _ _ _ _ => True) lw_Q := by
  refine MetFree.of_bodyS (code := code) (maxLocals := maxLocals) (ret := ret) (by decide) ?_ ?_
  · intro args s m h hn
    obtain ⟨meth, c, h1, h2, h3, h4, h5, h6, -, -⟩ := Cond.code_spec hn (atoms_spec (ws := Jvm.Cond.code x code maxLocals ret :: tables_1) h _ List.mem_cons_self)
    exact ⟨meth, c, h1, h2, h3, h4, h5, h6⟩
  · intro p e s m args below meth c s₁ B hml0 hP _
    obtain ⟨rfl, hx, hbd, hgv⟩ := hP
    obtain ⟨scr, harrAt, hlist, hof, hsmall⟩ := hx
    obtain ⟨hcb, hkn, -, -⟩ := State.arrayAt?_spec harrAt
    have hown : s.vm.findClass R_law = some m.cls := findClass_of_methodNamed B.named
    have hts0 : ∀ c ∈ (Jvm.Cond.code x code maxLocals ret :: tables_1), c.before #[Value.ref b] s = true := atoms_spec (ws := Jvm.Cond.code x code maxLocals ret :: tables_1) B.pre
    have hts : ∀ w ∈ lw_tbl, w.before #[Value.ref b] s = true := k2_hts_sels lw_privs (fun w hw => hts0 w (List.mem_cons_of_mem _ hw)) lw_privs_ok
    have hml : c.maxLocals = 4 := B.maxLocals_eq (hts0 _ List.mem_cons_self)
    have X₀ : Stand p l e room_1 s m #[Value.ref b] below meth c s₁ [] 0 0 := Stand.of_body B
    have hh0 : s₁.heap = s.heap := by rw [B.state]; rfl
    have hsz : scr.slots.size = xs.length := by rw [← Array.length_toList, hlist, List.length_map]
    have hval : ∀ j : Nat, j < xs.length → scr.slots[j]? = some (.int (xs.getD j 0)) := fun j hj => by
      rw [← Array.getElem?_toList, hlist]
      simp [hj]
    have hbl : b < s.heap.size := (Array.getElem?_eq_some_iff.mp hcb).1
    have hX : va_X b xs.length (fun j => xs.getD j 0) s s.heap := ⟨scr, hcb, hof, hkn, hsz, hval⟩
    have K : W p l e room_1 s m #[Value.ref b] below meth c s₁.heap [] 0 0 (lw_Z below #[Value.ref b] s) (entryFrame m ([Value.ref b] : List Value).toArray 4) := by
      rw [hh0]
      exact whole_start l hflags hbd ⟨B.exec, B.bytes, B.returns, hml, hown, hts, hX, hbl, B.notSynchronized, hgv⟩
    obtain ⟨t, a1, o, b1, b2, b3⟩ := K s₁ rfl X₀
    exact ⟨t, o, a1, b1, b2, b3⟩
theorem lw_pre_spec {args : Array Value} {s : State} (h : (Jvm.Cond.and given_1 narrow_1).before args s = true) (hr : rest_1_c.before args s = true) : ∃ (b : Addr) (xs : List Int32), lw_P b xs args s := by
  have hs := flat_of_before _ h
  have hq := flat_of_before _ hr
  have hc : (Cond.count 1).before args s = true := hs _ (by decide +kernel)
  have harr : (Cond.arrayOf (.arg 0) .int).before args s = true := hs _ (by decide +kernel)
  have hle : (Cond.le (.length (.arg 0)) (.int 3072)).before args s = true := hs _ (by decide +kernel)
  have hlen : (Cond.isInt (.length (.arg 0))).before args s = true := hq _ (by decide +kernel)
  have hall : (Cond.all (.arg 0) (.isInt (.elem (.arg 0) (.index 0)))).before args s = true := hq _ (by decide +kernel)
  obtain ⟨b, xs, hb, hx⟩ := State.ints_of_pre rfl harr hlen hall
  have hsm : xs.length < 2 ^ 31 := hx.choose_spec.2.2.2
  have hev : (Term.length (.arg 0)).eval args s none [] s = some (.int xs.length.toInt32) := hx.length_eval hb
  have hv := Cond.le_ints hev (show (Term.int 3072).eval args s none [] s = some (.int 3072) from rfl)
  have hd : xs.length.toInt32 ≤ 3072 := by
    simpa [Cond.before, Cond.holds, hv] using hle
  have hN : xs.length ≤ 3072 := (Int32.ofNat_le_ofNat hsm (by decide)).mp (show Int32.ofNat xs.length ≤ Int32.ofNat 3072 from hd)
  exact ⟨b, xs, Cond.one_arg hc (show args[0]? = some (.ref b) from hb), hx, hN, h⟩
theorem lw_comes (l : Launch) (hflags : l.flags = flags0) : Comes l x (Jvm.Cond.code x code maxLocals ret :: tables_1) room_1 (fun tb e args s => Calls_1 tb e args s ∧ rest_1 tb e args s ∧ Pre_1 tb e args s)
    (fun _ _ args s o t => lw_Q args s o t) := by
  intro p e ha hc hk s m args below hf hfit hheap happ hpre
  obtain ⟨b, xs, hP⟩ := lw_pre_spec hpre.2.2 hpre.2.1
  obtain ⟨k, o, h1, h2, h3, hQ⟩ := lw_walk l hflags b xs p e ha hc hk s m args below hf ((Spec.applies_iff_loose hf).mp happ).1 hP trivial
  exact ⟨k, o, h1, h2, h3, hQ⟩
theorem lw_frame {s t : State} {o : Outcome} {args : Array Value} (h : Framed s o t [] 600000 7302250) :
    Framed s o t (fieldLocs frame_1_writes args s ++ arrayLocs frame_1_arrays args s ++ staticLocs frame_1_statics s) 600000 7302250 := h
theorem lw_limb (L : Cond) (hL : ∀ (args : Array Value) (s t : State), L.after args s (.returned (some (.int 1))) t = true) :
    ArmFor flags0 classFile x code maxLocals ret World_1 tables_1 room_1 Calls_1 rest_1 Pre_1
      (fun tb e a s o t => postC L tb e a s o t ∧ Framed s o t (fieldLocs frame_1_writes a s ++ arrayLocs frame_1_arrays a s ++ staticLocs frame_1_statics s) 600000 7302250) := by
  intro l hflags _ _ p e ha hc hk s m args below hf hfit hheap happ hpre
  obtain ⟨k, o, h1, h2, h3, rfl, hF⟩ := lw_comes l hflags p e ha hc hk s m args below hf hfit hheap happ hpre
  exact ⟨k, _, h1, h2, h3, hL args s _, lw_frame hF⟩
theorem i_vc : Claimed_1_1 ∧ Claimed_1_2 := ⟨lw_limb limb_1_1 (fun args s t => by simp [limb_1_1, Cond.after, Cond.holds, Cond.value]), lw_limb limb_1_2 (fun args s t => Cond.after_iff.mpr (by
  first | (rw [show limb_1_2 = Cond.eq .result (.int 1) from rfl, Cond.eq_ints (x := 1) (y := 1) rfl rfl]; simp; done) | (simp [limb_1_2, Cond.value, Term.eval]; done)))⟩
