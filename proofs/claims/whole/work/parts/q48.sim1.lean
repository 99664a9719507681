/-! ===== the calls beside each other: what is asked, what is changed in the tub ===== -/
section
variable {T V X S K Y T' V' X' S' K' Y' : TS} {x y z v w : Int32} {n n' k m s i : Nat} {u u' : Int}
theorem Rel.ok (r : Rel u n T V X S K Y) : Ok n T := r.1.1.ok
theorem Rel.okS (r : Rel u n T V X S K Y) : Ok n S := r.1.1.sy.ok
theorem Rel.sr (r : Rel u n T V X S K Y) : SR n T S := r.1.1
theorem Rel.hd (r : Rel u n T V X S K Y) : T 86 = 0 := r.1.2.1
theorem Rel.yT (r : Rel u n T V X S K Y) : (T 1).toInt ≤ u := r.1.2.2
theorem Rel.y1 (r : Rel u n T V X S K Y) (hu : u ≤ 50000) : (T 1).toInt ≤ 60000 := by have := r.yT; omega
theorem Rel.y2 (r : Rel u n T V X S K Y) (hu : u ≤ 50000) : (S 1).toInt ≤ 60000 := by rw [sr_low r.sr (k := 1) (by omega) (by omega)]; exact r.y1 hu
theorem Rel.rf (r : Rel u n T V X S K Y) : RF X Y := r.2.2.1
theorem Rel.rh (r : Rel u n T V X S K Y) : RH X Y := r.2.2.2.2
theorem Rel.x1 (r : Rel u n T V X S K Y) : Y 1 = X 1 := by obtain ⟨L, _, h1, h2, _⟩ := r.2.2.2.1; rw [h1, h2]
theorem wi_ti {m : Int32} (h : wi x 0 m = true) : 0 ≤ x.toInt ∧ x.toInt ≤ m.toInt := by
  have := of_decide_eq_true h
  rw [lt_ti, lt_ti] at this
  have e0 : (0 : Int32).toInt = 0 := by decide
  omega
theorem s_layer : Sim 64 141 [.int x, .int w] := sim_q fun u n T V X S K Y hu r => ⟨lyQ x w n T, ly_ok, cq_layer r.ok, by
  rw [← ly_eq r.sr]
  exact mq_layer r.okS⟩
theorem s_of : Sim 68 150 [.int x, .int w] := sim_q fun u n T V X S K Y hu r => ⟨ofQ x w n T, of_ok, cq_of r.ok, by
  rw [← of_eqQ r.sr]
  exact mq_of r.okS⟩
theorem s_now : Sim 71 165 [.int w] := sim_q fun u n T V X S K Y hu r => ⟨noQ w n T, no_ok, cq_now r.ok, by
  rw [← no_eq r.sr]
  exact mq_now r.okS⟩
theorem s_ahead : Sim 72 167 [.int x, .int w, .int z] := sim_q fun u n T V X S K Y hu r => ⟨ahQ x w z n T, ah_ok, cq_ahead r.ok, by
  rw [← ah_eq r.sr]
  exact mq_ahead r.okS (r.y2 hu)⟩
theorem s_dyed : Sim 73 168 [.int x, .int y, .int z] := sim_q fun u n T V X S K Y hu r => ⟨ddQ x y z n T, dd_ok, cq_dyed r.ok, by
  rw [← dd_eq r.sr]
  exact mq_dyed r.okS (r.y2 hu)⟩
theorem s_seen : Sim 74 169 [.int x] := sim_q fun u n T V X S K Y hu r => ⟨seQ x n T, se_ok, cq_seen r.ok, by
  rw [← se_eq r.sr]
  exact mq_seen r.okS (r.y2 hu)⟩
theorem s_when : Sim 75 170 [.int x, .int y] := sim_q fun u n T V X S K Y hu r => ⟨whQ x y n T, wh_ok, cq_when r.ok, by
  rw [← wh_eq r.sr]
  exact mq_when r.okS (r.y2 hu)⟩
theorem s_murky : Sim 76 171 [.int x] := sim_q fun u n T V X S K Y hu r => ⟨muQ x n T, mu_ok, cq_murky r.ok, by
  rw [← mu_eq r.sr]
  exact mq_murky r.okS (r.y2 hu)⟩
theorem s_treaty : Sim 77 172 [.int x, .int y] := sim_q fun u n T V X S K Y hu r => ⟨trQ x y n T, tr_ok, cq_treaty r.ok, by
  rw [← tr_eq r.sr]
  exact mq_treaty r.okS (r.y2 hu)⟩
theorem s_stirFor : Sim 78 173 [.int x, .int z] := sim_q fun u n T V X S K Y hu r => ⟨sfQ x z n T, sf_ok, cq_stirFor r.ok, by
  rw [← sf_eq r.sr]
  exact mq_stirFor r.okS (r.y2 hu)⟩
theorem s_put : Sim 79 175 [.int x, .int z] := sim_q fun u n T V X S K Y hu r => ⟨puQ x z n T, pu_ok, cq_put r.ok, by
  rw [← pu_eq r.sr]
  exact mq_put r.okS (r.y2 hu)⟩
theorem s_kindFor : Sim 80 176 [.int x, .int z] := sim_q fun u n T V X S K Y hu r => ⟨kfQ x z n T, kf_ok, cq_kindFor r.ok, by
  rw [← kf_eq r.sr]
  exact mq_kindFor r.okS (r.y2 hu)⟩
theorem s_holdsFor : Sim 81 177 [.int x, .int z] := sim_q fun u n T V X S K Y hu r => ⟨hfQ x z n T, hf_ok, cq_holdsFor r.ok, by
  rw [← hf_eq r.sr]
  exact mq_holdsFor r.okS (r.y2 hu)⟩
theorem s_lyeFor : Sim 82 179 [.int x, .int z] := sim_q fun u n T V X S K Y hu r => ⟨lfQ x z n T, lf_ok, cq_lyeFor r.ok, by
  rw [← lf_eq r.sr]
  exact mq_lyeFor r.okS (r.y2 hu)⟩
theorem s_out : Sim 83 180 [.int x, .int z] := sim_q fun u n T V X S K Y hu r => ⟨ouQ x z n T, ou_okQ, cq_out r.ok, by
  rw [← ou_eq r.sr]
  exact mq_out r.okS (r.y2 hu)⟩
theorem s_as : Sim 94 213 [.int x, .int y] := sim_q fun u n T V X S K Y hu r => ⟨asQ x y T, as_ok, cq_as r.ok, by
  rw [← as_eq r.sr]
  exact mq_as r.okS⟩
theorem s_count : Sim 103 224 [.int w] := sim_q fun u n T V X S K Y hu r => ⟨cuQ w n (X 1) T, cu_ok, cq_count r.ok, by
  rw [← cu_eq r.sr r.x1]
  exact mq_count r.okS⟩
theorem s_status : Sim 104 225 [.int w] := sim_q fun u n T V X S K Y hu r => ⟨stC w X, st_ok, cq_status, by
  rw [← st_eqQ r.rf]
  exact mq_status⟩
theorem s_fits : Sim 84 184 [.int x, .int y, .int z] := sim_q fun u n T V X S K Y hu r => ⟨fiQ (wfX x y z n X) (fun i => X (200 + 50 * iN x + i)) (iN (X (241 + 50 * iN x))) (iN y) z n T, br_ok trivial, cq_fits r.ok (rh_szX r.rh), by
  rw [← fi_eq r.sr r.rh]
  exact mq_fits r.okS (rh_szY r.rh) (r.y2 hu)⟩
theorem s_held : Sim 85 185 [.int x, .int y, .int z] := sim_q fun u n T V X S K Y hu r => ⟨heQ (wfX x y z n X) (fun i => X (200 + 50 * iN x + i)) (iN (X (241 + 50 * iN x))) (iN y) z n T, br_ok on_ok, cq_held r.ok (rh_szX r.rh), by
  rw [← he_eq r.sr r.rh]
  exact mq_held r.okS (rh_szY r.rh) (r.y2 hu)⟩
theorem s_kinds : Sim 86 186 [.int x, .int y] := sim_q fun u n T V X S K Y hu r => ⟨kiQ (wfX x y 0 n X) (fun i => X (200 + 50 * iN x + i)) (iN (X (241 + 50 * iN x))) (iN y) n T, br_ok trivial, cq_kinds r.ok (rh_szX r.rh), by
  rw [← ki_eq r.sr r.rh]
  exact mq_kinds r.okS (rh_szY r.rh) (r.y2 hu)⟩
theorem s_dye : Sim 63 137 [.int x, .int y, .int z] := fun u n T V X S K Y hu r => by
  by_cases q : isL x = true ∧ isC y = true ∧ wi z 0 999 = true
  · have m := mo_dye (K := K) (Y := Y) r.okS q.1 q.2.1 q.2.2
    rw [sr_dye r.sr q.1 q.2.1] at m
    have b := wi_ti q.2.2
    have e9 : (999 : Int32).toInt = 999 := by decide
    exact sim_t r (co_dye r.ok q.1 q.2.1 q.2.2) m (SR.upD r.sr q.1 q.2.1 b.1 (by omega)) (by rw [fu_ne (dy_86 q.1 q.2.1).symm]; exact r.hd) (by rw [up_1 (by unfold dyI; omega)]; have := r.yT; omega)
  · exact sim_f (by decide) r (cb_dye r.ok q) (mb_dye r.okS q)
theorem s_lye : Sim 65 142 [.int x] := fun u n T V X S K Y hu r => by
  by_cases q : wi x 0 9 = true
  · have m := mo_lye (K := K) (Y := Y) r.okS q
    rw [sr_low r.sr (k := 3) (by omega) (by omega)] at m
    have b := wi_ti q
    have e9 : (9 : Int32).toInt = 9 := by decide
    exact sim_t r (co_lye r.ok q) m (r.sr.up (by omega) (fun _ => ⟨b.1, by show x.toInt ≤ 9; omega⟩)) (by rw [fu_ne (by decide)]; exact r.hd) (by rw [up_1 (by omega)]; have := r.yT; omega)
  · exact sim_f (by decide) r (cb_lye r.ok q) (mb_lye r.okS q)
theorem s_stir : Sim 66 144 [.int x, .int y] := fun u n T V X S K Y hu r => by
  by_cases q : isL x = true ∧ isL y = true ∧ ¬ x = y
  · have m := mo_stir (K := K) (Y := Y) r.okS q.1 q.2.1 q.2.2
    have t := sr_st r.sr q.1 q.2.1
    rw [sr_th t, sr_th t] at m
    exact sim_t r (co_stir r.ok q.1 q.2.1 q.2.2) m t (by rw [st_hi q.1 q.2.1 r.ok.1]; exact r.hd) (by rw [st_1 q.1 q.2.1]; have := r.yT; omega)
  · exact sim_f (by decide) r (cb_stir r.ok q) (mb_stir r.okS q)
theorem isKd_rg (h : isKd x = true) : 0 ≤ x.toInt ∧ x.toInt ≤ 6 := by
  have := of_decide_eq_true h
  rw [lt_ti, lt_ti] at this
  have e0 : (0 : Int32).toInt = 0 := by decide
  have e7 : (7 : Int32).toInt = 7 := by decide
  omega
theorem s_thing : Sim 67 146 [.int x, .int y] := fun u n T V X S K Y hu r => by
  by_cases q : isKd x = true ∧ isL y = true
  · by_cases q8 : n < 8
    · exact sim_t r (co_thing r.ok q.1 q.2 q8) (mo_thing r.okS q.1 q.2 q8) (sr_co r.sr q8 (isKd_rg q.1) q.2) (by unfold coS; rw [fu_ne (by omega), fu_ne (by omega), fu_ne (by omega), fu_ne (by omega), fu_ne (by omega), fu_ne (by omega), fu_ne (by omega)]; exact r.hd) (by unfold coS; rw [fu_ne (by omega), fu_ne (by omega), fu_ne (by omega), fu_ne (by omega), fu_ne (by omega), fu_ne (by omega), fu_ne (by omega)]; have := r.yT; omega)
    · have e8 : n = 8 := by have := r.ok.1; omega
      exact sim_f (by decide) r (cb_thing8 r.ok q.1 q.2 e8) (mb_thing8 r.okS q.1 q.2 e8)
  · exact sim_f (by decide) r (cb_thing r.ok q) (mb_thing r.okS q)
theorem sr_be {t : Nat} (h : SR n T S) (ht : t < n) (hw : wi w 0 5 = true) (hv : wi v 0 (mxS w) = true) : SR n (beS t w v T) (beS t w v S) ∧ beS t w v T 86 = T 86 ∧ beS t w v T 1 = T 1 := by
  have h8 := h.1
  obtain ⟨k, hk, rfl⟩ := wi_nat 5 (by decide) hw
  have b := wi_ti hv
  have e6 : (6 : Int32).toInt = 6 := by decide
  have e7 : (7 : Int32).toInt = 7 := by decide
  have e2 : (2 : Int32).toInt = 2 := by decide
  have e9 : (999 : Int32).toInt = 999 := by decide
  have c : k = 0 ∨ k = 1 ∨ k = 2 ∨ k = 3 ∨ k = 4 ∨ k = 5 := by omega
  rcases c with rfl | rfl | rfl | rfl | rfl | rfl
  · have b : 0 ≤ v.toInt ∧ v.toInt ≤ (6 : Int32).toInt := b
    exact ⟨h.up (k := 28 + 6 * t) (by omega) (fun _ => bd_kind (by omega) b.1 (by omega)), fu_ne (k := 28 + 6 * t) (by omega), fu_ne (k := 28 + 6 * t) (by omega)⟩
  · have b : 0 ≤ v.toInt ∧ v.toInt ≤ (7 : Int32).toInt := b
    exact ⟨h.up (k := 29 + 6 * t) (by omega) (fun _ => bd_layer (by omega) b.1 (by omega)), fu_ne (k := 29 + 6 * t) (by omega), fu_ne (k := 29 + 6 * t) (by omega)⟩
  · have b : 0 ≤ v.toInt ∧ v.toInt ≤ (2 : Int32).toInt := b
    exact ⟨h.up (k := 30 + 6 * t) (by omega) (fun _ => bd_colour (by omega) b.1 (by omega)), fu_ne (k := 30 + 6 * t) (by omega), fu_ne (k := 30 + 6 * t) (by omega)⟩
  · have b : 0 ≤ v.toInt ∧ v.toInt ≤ (999 : Int32).toInt := b
    exact ⟨h.up (k := 31 + 6 * t) (by omega) (fun _ => bd_holds (by omega) b.1 (by omega)), fu_ne (k := 31 + 6 * t) (by omega), fu_ne (k := 31 + 6 * t) (by omega)⟩
  · have b : 0 ≤ v.toInt ∧ v.toInt ≤ (999 : Int32).toInt := b
    exact ⟨h.up (k := 32 + 6 * t) (by omega) (fun _ => bd_soaked (by omega) b.1 (by omega)), fu_ne (k := 32 + 6 * t) (by omega), fu_ne (k := 32 + 6 * t) (by omega)⟩
  · have b : 0 ≤ v.toInt ∧ v.toInt ≤ (999 : Int32).toInt := b
    exact ⟨h.up (k := 33 + 6 * t) (by omega) (fun _ => bd_seen (by omega) b.1 (by omega)), fu_ne (k := 33 + 6 * t) (by omega), fu_ne (k := 33 + 6 * t) (by omega)⟩
theorem s_change : Sim 69 152 [.int x, .int w, .int v] := fun u n T V X S K Y hu r => by
  by_cases q : hsB x n = true ∧ wi w 0 5 = true ∧ wi v 0 (mxS w) = true
  · have m := mo_change (K := K) (Y := Y) r.okS q.1 q.2.1 q.2.2
    have c := co_change (V := V) (X := X) r.ok q.1 q.2.1 q.2.2
    obtain ⟨t, ht, e⟩ := hs_of q.1 r.ok.1
    have et : iN x = t := by rw [e]; exact iN_of (by have := r.ok.1; omega)
    rw [et] at m c
    rw [sr_to r.sr ht] at m
    have b := sr_be r.sr ht q.2.1 q.2.2
    exact sim_t r c m b.1 (by rw [b.2.1]; exact r.hd) (by rw [b.2.2]; have := r.yT; omega)
  · exact sim_f (by decide) r (cb_change r.ok q) (mb_change r.okS q)
theorem s_go : Sim 70 161 [.int x] := fun u n T V X S K Y hu r => by
  by_cases q : wi x 1 60 = true
  · have m := mo_go (K := K) (Y := Y) r.okS (r.y2 hu) q
    have t := sr_ys (out := 0) (m := iN x) r.sr
    rw [sr_ad t] at m
    obtain ⟨k, _, hk, e⟩ := wi_nat1 60 (by decide) q
    have et : iN x = k := by rw [e]; exact iN_of (by omega)
    have b := ys_1 (out := 0) (m := iN x) r.ok
    exact sim_t r (co_go r.ok r.hd (r.y1 hu) q) m t (ys_86 r.ok r.hd) (by have := r.yT; omega)
  · exact sim_f (by decide) r (cb_go r.ok q) (mb_go r.okS q)
theorem sk_all (ok : Ok n T) (hd : T 86 = 0) : skN n m T 86 = 0 ∧ (skN n m T 1).toInt ≤ (T 1).toInt + m :=
  (lpf_inv (f := fun _ => skT n) (P := fun k (s : TS) => Ok n s ∧ s 86 = 0 ∧ (s 1).toInt ≤ (T 1).toInt + k) (N := m) (fun k s hk p => ⟨sr_skT p.1, sk_86' p.1 p.2.1, by have := sk_1 p.1; have := p.2.2; omega⟩) m 0 T (by omega) ⟨ok, hd, by omega⟩).2
theorem s_sticks : Sim 87 188 [.int x] := fun u n T V X S K Y hu r => by
  by_cases q : wi x 1 20 = true
  · have m := mo_sticks (K := K) (Y := Y) r.okS (r.y2 hu) q
    have t := sr_skN (m := iN x) r.sr
    rw [sr_su t] at m
    obtain ⟨k, _, hk, e⟩ := wi_nat1 20 (by decide) q
    have et : iN x = k := by rw [e]; exact iN_of (by omega)
    have b := sk_all (m := iN x) r.ok r.hd
    exact sim_t r (co_sticks r.ok r.hd (r.y1 hu) q) m t b.1 (by have := r.yT; have := b.2; omega)
  · exact sim_f (by decide) r (cb_sticks q) (mb_sticks q)
theorem s_seed : Sim 89 190 [.int x] := fun u n T V X S K Y hu r => by
  have m := mo_seed (S := S) (K := K) (Y := Y) (x := x)
  rw [sr_low r.sr (k := 2) (by omega) (by omega)] at m
  have b0 := Int32.le_toInt x
  have b1 := Int32.toInt_lt x
  exact sim_t r co_seed m (r.sr.up (by omega) (fun _ => ⟨by show (-2147483648 : Int) ≤ _; omega, by show _ ≤ (2147483647 : Int); omega⟩)) (by rw [fu_ne (by decide)]; exact r.hd) (by rw [up_1 (by omega)]; have := r.yT; omega)
theorem s_hold : Sim 93 211 [.int x, .int y] := fun u n T V X S K Y hu r => by
  by_cases q : isSp x = true ∧ (y = -1 ∨ hsB y n = true)
  · obtain ⟨k, hk, rfl⟩ := isSp_nat q.1
    have m := mo_hold (K := K) (Y := Y) r.okS q.1 q.2
    have c := co_hold (V := V) (X := X) r.ok q.1 q.2
    rw [iN_of (by omega)] at m c
    have b : -1 ≤ y.toInt ∧ y.toInt ≤ (n : Int) - 1 := by
      rcases q.2 with rfl | q2
      · exact ⟨by decide, by have : (-1 : Int32).toInt = -1 := by decide
                             omega⟩
      · obtain ⟨t, ht, rfl⟩ := hs_of q2 r.ok.1
        have := r.ok.1
        rw [ti_of (by omega)]; omega
    exact sim_t r c m (r.sr.up (by omega) (fun _ => bd_spot b.1 b.2)) (by rw [fu_ne (by omega)]; exact r.hd) (by rw [up_1 (by omega)]; have := r.yT; omega)
  · exact sim_f (by decide) r (cb_hold r.ok q) (mb_hold r.okS q)
theorem s_image : Sim 100 221 [] := fun u n T V X S K Y hu r =>
  ⟨1, n, T, tkS n T V, mfu X 0 1, S, S, mfu Y 0 1, co_image r.ok, mo_image, ⟨r.1.mono (by omega), Or.inr ⟨fu_at, fu_at, n, sr_tk r.sr, by
    have e : tkS n T V 1 = T 1 := by unfold tkS; rw [if_neg (by omega), if_pos (Or.inl (by omega))]
    rw [e]; have := r.yT; omega⟩, r.rf.cg (fun k _ _ => fu_ne (by omega)) (fun k _ _ => fu_ne (by omega)), r.2.2.2.1.cg (fun k _ => fu_ne (by omega)) (fun k _ => fu_ne (by omega)), r.rh.cg (fun k _ => fu_ne (by omega)) (fun k _ => fu_ne (by omega))⟩⟩
theorem s_undo : Sim 101 222 [] := fun u n T V X S K Y hu r => by
  rcases r.2.1 with ⟨h1, h2⟩ | ⟨h1, h2, nk, h3, h4⟩
  · exact sim_f (by decide) r (cb_undo h1) (mb_undo h2)
  · have m := mo_undo (S := S) (K := K) (Y := Y) h2
    rw [sr_low h3 (k := 1) (by omega) (by omega)] at m
    have e : tkS nk V T 1 = V 1 := by unfold tkS; rw [if_neg (by omega), if_pos (Or.inl (by omega))]
    exact ⟨V 1, nk, tkS nk V T, V, X, K, K, Y, co_undo h3.ok h1, m, r.tub (by omega) (sr_tk h3) tk_86 (by rw [e]; omega)⟩
theorem s_tear : Sim 102 223 [] := fun u n T V X S K Y hu r => by
  have e : Y 0 = X 0 := by
    rcases r.2.1 with ⟨h1, h2⟩ | ⟨h1, h2, _⟩
    · rw [h1, h2]
    · rw [h1, h2]
  have m := mo_tear (S := S) (K := K) (Y := Y)
  rw [e] at m
  exact ⟨_, n, T, V, mfu X 0 0, S, K, mfu Y 0 0, co_tear, m, ⟨r.1.mono (by omega), Or.inl ⟨fu_at, fu_at⟩, r.rf.cg (fun k _ _ => fu_ne (by omega)) (fun k _ _ => fu_ne (by omega)), r.2.2.2.1.cg (fun k _ => fu_ne (by omega)) (fun k _ => fu_ne (by omega)), r.rh.cg (fun k _ => fu_ne (by omega)) (fun k _ => fu_ne (by omega))⟩⟩
theorem s_wipe : Sim 91 192 [] := fun u n T V X S K Y hu r => by
  have m := mo_wipe (S := S) (K := K) (Y := Y)
  rw [r.x1] at m
  exact ⟨_, n, T, V, mfu X 1 0, S, K, mfu Y 1 0, co_wipe, m, ⟨r.1.mono (by omega), (r.2.1.mono (by omega)).cg (fu_ne (by omega)) (fu_ne (by omega)), r.rf.cg (fun k _ _ => fu_ne (by omega)) (fun k _ _ => fu_ne (by omega)), ⟨0, by omega, fu_at, fu_at, fun i hi => absurd hi (by omega)⟩, r.rh.cg (fun k _ => fu_ne (by omega)) (fun k _ => fu_ne (by omega))⟩⟩
end
