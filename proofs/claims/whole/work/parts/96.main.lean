/-! ===== soundness, by fuel ===== -/
set_option maxRecDepth 100000 in
theorem mm_words : (Cond.static Lib.Math.max.name ∈ lw_tbl ∧ Cond.code Lib.Math.max.name Lib.Math.max.code 2 (some .int) ∈ lw_tbl) ∧ (Cond.static Lib.Math.min.name ∈ lw_tbl ∧ Cond.code Lib.Math.min.name Lib.Math.min.code 2 (some .int) ∈ lw_tbl) ∧ Cond.initialized "java/lang/Math" ∈ lw_tbl := by decide +kernel
theorem mm_in {w : Cond} (h : w ∈ lw_tbl) (hg : goodWord w = true) : w ∈ wtbl := List.mem_filter.mpr ⟨h, hg⟩
theorem mm_args {n M : Nat} (hM : mml M = 2) (hc : mcode M 0 = some (.iload_n 0, 1, 0, 0, 0)) (hc1 : mcode M 1 = some (.iload_n 1, 1, 0, 0, 0)) {as : List Value} {a : MA} {h : MH} {r : MR} (hl : as.length = 2) (hf : (mlay as).length ≤ mml M) (e : mrun n M (0, mini (mml M) as, [], a, h) = some r) : ∃ x y : Int32, as = [.int x, .int y] ∧ Rn M (2, [some (.int x), some (.int y)], [.int y, .int x], a, h) = some r := by
  rw [hM] at hf e
  match as, hl with
  | [u, v], _ =>
    have hu : ¬ u.category = 2 := by
      intro h2
      have : mlay [u, v] = some u :: none :: mlay [v] := if_pos h2
      rw [this] at hf
      have h3 : 1 ≤ (mlay [v]).length := by
        by_cases h4 : v.category = 2
        · rw [show mlay [v] = some v :: none :: mlay [] from if_pos h4]; simp
        · rw [show mlay [v] = some v :: mlay [] from if_neg h4]; simp
      simp only [List.length_cons] at hf
      omega
    have hv : ¬ v.category = 2 := by
      intro h2
      have e1 : mlay [u, v] = some u :: mlay [v] := if_neg hu
      have e2 : mlay [v] = some v :: none :: mlay [] := if_pos h2
      rw [e1, e2] at hf
      simp only [List.length_cons] at hf
      omega
    have e1 : mini 2 [u, v] = [some u, some v] := by
      unfold mini
      rw [show mlay [u, v] = some u :: mlay [v] from if_neg hu, show mlay [v] = some v :: mlay [] from if_neg hv]
      rfl
    rw [e1] at e
    have e := Rn_of n e
    cases u with
    | int x =>
      cases v with
      | int y =>
        refine ⟨x, y, rfl, ?_⟩
        rw [← e, Rn_go hc (s := (1, [some (.int x), some (.int y)], [.int x], a, h)) rfl, Rn_go hc1 (s := (2, [some (.int x), some (.int y)], [.int y, .int x], a, h)) rfl]
      | _ => rw [Rn_go hc (s := (1, _, [.int x], a, h)) rfl, Rn_act hc1] at e; cases (show (none : Option MR) = some r from e)
    | _ => rw [Rn_act hc] at e; cases (show (none : Option MR) = some r from e)
theorem mm_max {n : Nat} {as : List Value} {a : MA} {h : MH} {r : MR} (hl : as.length = 2) (hf : (mlay as).length ≤ mml 227) (e : mrun n 227 (0, mini (mml 227) as, [], a, h) = some r) : ∃ x y : Int32, as = [.int x, .int y] ∧ r = (some (.int (if x < y then y else x)), a, h) := by
  obtain ⟨x, y, h1, h2⟩ := mm_args (M := 227) rfl rfl rfl hl hf e
  refine ⟨x, y, h1, ?_⟩
  rw [Rn_icmp (M := 227) (pc := 2) (n := 3) (x := 0) (y := 0) (c := 0) rfl mc_lt (t := 9) rfl (t2 := 5) rfl] at h2
  by_cases q : x < y
  · rw [if_pos q, Rn_go (M := 227) (pc := 9) (s := (10, [some (.int x), some (.int y)], [.int y], a, h)) (i := (.iload_n 1, 1, 0, 0, 0)) rfl rfl, Rn_ireti (M := 227) (pc := 10) (n := 1) (y := 0) (c := 0) rfl] at h2
    rw [if_pos q]; exact (Option.some.inj h2).symm
  · rw [if_neg q, Rn_go (M := 227) (pc := 5) (s := (6, [some (.int x), some (.int y)], [.int x], a, h)) (i := (.iload_n 0, 1, 0, 0, 0)) rfl rfl, Rn_goto (M := 227) (pc := 6) (t := 10) (off := 4) (n := 3) (x := 0) (y := 0) (c := 0) rfl rfl, Rn_ireti (M := 227) (pc := 10) (n := 1) (y := 0) (c := 0) rfl] at h2
    rw [if_neg q]; exact (Option.some.inj h2).symm
theorem mm_min {n : Nat} {as : List Value} {a : MA} {h : MH} {r : MR} (hl : as.length = 2) (hf : (mlay as).length ≤ mml 228) (e : mrun n 228 (0, mini (mml 228) as, [], a, h) = some r) : ∃ x y : Int32, as = [.int x, .int y] ∧ r = (some (.int (if y < x then y else x)), a, h) := by
  obtain ⟨x, y, h1, h2⟩ := mm_args (M := 228) rfl rfl rfl hl hf e
  refine ⟨x, y, h1, ?_⟩
  rw [Rn_icmp (M := 228) (pc := 2) (n := 3) (x := 0) (y := 0) (c := 0) rfl mc_gt (t := 9) rfl (t2 := 5) rfl] at h2
  by_cases q : y < x
  · rw [if_pos q, Rn_go (M := 228) (pc := 9) (s := (10, [some (.int x), some (.int y)], [.int y], a, h)) (i := (.iload_n 1, 1, 0, 0, 0)) rfl rfl, Rn_ireti (M := 228) (pc := 10) (n := 1) (y := 0) (c := 0) rfl] at h2
    rw [if_pos q]; exact (Option.some.inj h2).symm
  · rw [if_neg q, Rn_go (M := 228) (pc := 5) (s := (6, [some (.int x), some (.int y)], [.int x], a, h)) (i := (.iload_n 0, 1, 0, 0, 0)) rfl rfl, Rn_goto (M := 228) (pc := 6) (t := 10) (off := 4) (n := 3) (x := 0) (y := 0) (c := 0) rfl rfl, Rn_ireti (M := 228) (pc := 10) (n := 1) (y := 0) (c := 0) rfl] at h2
    rw [if_neg q]; exact (Option.some.inj h2).symm
