set_option maxRecDepth 100000 in
theorem init_all : (List.range 237).all (fun M => match mnfo M with | some f => f.2.2.2.2.2 != 2 || decide (f.2.2.2.1 = none) | none => false) = true := by decide +kernel
theorem init_none {M : Nat} {f : MInfo} (hM : M < 237) (hf : mnfo M = some f) (hk : f.2.2.2.2.2 = 2) : f.2.2.2.1 = none := by
  have h := List.all_eq_true.mp init_all M (List.mem_range.mpr hM)
  rw [hf] at h
  simp only [Bool.or_eq_true, bne_iff_ne, ne_eq, decide_eq_true_eq] at h
  exact h.resolve_left (fun z => z hk)
theorem cnt_le {a c0 ac rc R : Nat} (h0 : c0 ≤ a) (h1 : a ≤ ac) (h2 : ac ≤ rc) (h3 : rc - c0 ≤ R) : (a - c0) + (ac - a) ≤ R := by omega
theorem cnt_eq {a c0 ac : Nat} (h0 : c0 ≤ a) (h1 : a ≤ ac) : (a - c0) + (ac - a) = ac - c0 := by omega
theorem nests_mm : ∀ q ∈ nests, q.2.2 ≠ yJ9_max_7cf53 ∧ q.2.2 ≠ yJ9_min_7cf53 := by decide +kernel
theorem ii_two : (parseMethodDescriptor "(II)I").map (fun d => d.parameters.length) = some 2 := by decide +kernel
set_option maxHeartbeats 8000000 in
/-- SOUNDNESS: whatever the small machine computes by some fuel, the real machine comes to -/
theorem snd_all (l : Launch) : ∀ n, SndAt l n
  | 0 => fun M pc ls st a h r hrun => nomatch hrun
  | n + 1 => by
    have ih := snd_all l n
    intro M pc ls st a h r hrun hM hmm f hf p e R s m args below meth c H locs Q A xs sv ao ad Z D c0 s0 ls' C hR hc0 hs0 hrc hrs kret
    have hrun : mnext (mrun n) M a h (mstep M (pc, ls, st, a, h)) = some r := hrun
    unfold mstep at hrun
    cases hc : mcode M pc with
    | none => simp only [hc] at hrun; cases hrun
    | some i =>
      have hrun : mnext (mrun n) M a h (mact i pc ls st a h) = some r := by simp only [hc] at hrun; exact hrun
      obtain ⟨hok, hj, hm0⟩ := code_ok hM hmm hf hc
      cases ha : mact i pc ls st a h with
      | none => rw [ha] at hrun; cases hrun
      | some z =>
        rw [ha] at hrun
        match z, ha, hrun with
        | .inl (pc2, ls2, st2, a2, h2), ha, hrun =>
          have hrun : mrun n M (pc2, ls2, st2, a2, h2) = some r := hrun
          have h1 := mact_cnt ha
          have h2 := mrun_cnt n M pc2 ls2 st2 a2 _ r hrun
          refine snd_step C hok hj ha hR (by omega) (by omega) hc0 hs0 (fun ad' H' locs' ls'' hR' hag => ?_)
          refine ih M pc2 ls2 st2 a2 _ r hrun hM hmm f hf p e R s m args below meth c H' locs' Q A xs sv ao ad' Z D c0 s0 ls'' C hR' (by omega) (by omega) hrc hrs ?_
          intro pc' ad2 H2 locs2 ls3 hag2
          exact kret pc' ad2 H2 locs2 ls3 (fun k hk => (hag2 k (by omega)).trans (hag k hk))
        | .inr (.inl r'), ha, hrun =>
          cases hrun
          obtain ⟨hP, hD, hS, hI, hL, hT, hlr, hao, hnl⟩ := hR
          obtain ⟨e1, e2, e3, hret⟩ := ret_inv hok ha
          obtain ⟨v, ra, rh⟩ := r
          dsimp only at e1 e2 e3 hret kret hrc hrs
          subst e1; subst e2; subst e3
          have K := kret pc ad H locs ls' (fun _ _ => rfl) hao hP hD hS hI (fun w hw => hT w (by rw [hw]; exact List.mem_cons_self)) hret
          rw [show v.toList.map (tv sv ad) = (v.map (tv sv ad)).toList from by cases v <;> rfl]
          exact K
        | .inr (.inr (M', as, pc', ls1, st1)), ha, hrun =>
          have hrun : mcont (mrun n M) pc' ls1 st1 (mcal (mrun n) M' as a h) = some r := hrun
          cases hcl : mcal (mrun n) M' as a h with
          | none => rw [hcl] at hrun; cases hrun
          | some rc =>
            obtain ⟨vc, ac, hc'⟩ := rc
            rw [hcl] at hrun
            obtain ⟨hfit, hrunc⟩ := mcal_some hcl
            have hrun2 : mrun n M (pc', ls1, vc.toList ++ st1, ac, hc') = some r := hrun
            have hcnt := mrun_cnt n M' 0 _ _ a h _ hrunc
            have hcnt2 := mrun_cnt n M pc' ls1 _ ac hc' r hrun2
            dsimp only at hcnt
            obtain ⟨e1, e2, hcat, k, n', hcall⟩ := call_inv hok ha
            subst e1; subst e2
            obtain ⟨hP, hD, hS, hI, hL, hT, hlr, hao, hnl⟩ := hR
            have hT1 : sin a.1 st1 := by
              intro w hw
              rcases hcall with ⟨-, -, -, e⟩ | ⟨b, as', -, -, e, -⟩
              · exact hT w (by rw [e]; exact List.mem_append_right _ hw)
              · exact hT w (by rw [e]; exact List.mem_append_right _ (List.mem_cons_of_mem _ hw))
            have hTa : sin a.1 as := by
              intro w hw
              rcases hcall with ⟨-, -, -, e⟩ | ⟨b, as', e0, -, e, -⟩
              · exact hT w (by rw [e]; exact List.mem_append_left _ (List.mem_reverse.mpr hw))
              · rw [e0] at hw
                rcases List.mem_cons.mp hw with hw | hw
                · exact hT w (by rw [e, hw]; exact List.mem_append_right _ List.mem_cons_self)
                · exact hT w (by rw [e]; exact List.mem_append_left _ (List.mem_reverse.mpr hw))
            -- how the caller goes on
            have K : ∀ (ad' : Nat → Nat) (H1 : Heap) (locs1 : List Loc), (∀ k, k < a.1 → ad' k = ad k) → (∀ k, 1000 ≤ k → ad' k = ao k) → va_P D vwCl (wsl Z sv ad' ac.1 hc') H1 → va_D A (wsl Z sv ad' ac.1 hc') → va_S A s.heap H1 locs1 → hin xs ac.1 hc' → (∀ v, vc = some v → clo ac.1 v) →
                W p l e R s m args below meth c H1 locs1 (ac.2.1 - c0) (ac.2.2 - s0) Q (F0 m (pc + 3) ls' ((vc.map (tv sv ad')).toList ++ st1.map (tv sv ad))) := by
              intro ad' H1 locs1 hag hao' hP1 hD1 hS1 hI1 hcl1
              have hboth : ∀ k, k < a.1 ∨ 1000 ≤ k → ad' k = ad k := fun k hk => hk.elim (hag k) (fun z => (hao' k z).trans (hao k z).symm)
              have hst : (vc.toList ++ st1).map (tv sv ad') = (vc.map (tv sv ad')).toList ++ st1.map (tv sv ad) := by rw [map_toList, stk_eq hT1 hboth]
              rw [← hst]
              refine ih M (pc + 3) ls1 (vc.toList ++ st1) ac hc' r hrun2 hM hmm f hf p e R s m args below meth c H1 locs1 Q A xs sv ao ad' Z D c0 s0 ls' C ⟨hP1, hD1, hS1, hI1, hL.mono hcnt.1, ?_, lrep_eq hL hboth hlr, hao', hnl⟩ (by omega) (by omega) hrc hrs ?_
              · intro w hw
                rcases List.mem_append.mp hw with hw | hw
                · exact hcl1 w (by cases vc with | none => exact nomatch hw | some u => rw [List.mem_singleton.mp hw])
                · exact (hT1 w hw).mono hcnt.1
              · intro pc' ad2 H2 locs2 ls3 hag2
                exact kret pc' ad2 H2 locs2 ls3 (fun k hk => (hag2 k (by omega)).trans (hag k hk))
            obtain ⟨hx, hb, hml, hown, hts, hK, hA, hO, hin0, hfr, hlo, hsv⟩ := C
            obtain ⟨g, hg, hrk⟩ : ∃ g : MInfo, mnfo M' = some g ∧ g.2.2.2.2.1 < f.2.2.2.2.1 := by
              rcases hcall with ⟨-, h1, -⟩ | ⟨b, as', -, -, -, ⟨-, h1, -⟩ | ⟨-, h1⟩⟩ <;> (obtain ⟨g, h2, h3, -⟩ := lkcall_spec h1; exact ⟨g, h2, h3⟩)
            have hM' : M' < 236 := by
              have h1 := mnfo_lt hg
              have h2 := rank_le hf
              rcases Nat.lt_or_ge M' 236 with q | q
              · exact q
              · have h3 : M' = 236 := by omega
                subst h3
                rw [lawI_eq] at hg
                cases hg
                exact absurd hrk (by show ¬ 11 < _; omega)
            have hS0 : (st1.map (tv sv ad)).map (fun v => v.category) = (st1.map (tv sv ad)).map (fun v => v.category) := rfl
            have hroom : ((st1.map (tv sv ad)).map fun v => v.category).sum ≤ 8 := by rw [mcat_tv hsv]; exact hcat
            cases hmm' : isMM M' with
            | true =>
              have hmath : M' = 227 ∨ M' = 228 := by simpa [isMM] using hmm'
              rcases hcall with ⟨hd, h1, hlen, hst⟩ | ⟨b, as', -, -, -, ⟨-, h1, -⟩ | ⟨-, h1⟩⟩
              · obtain ⟨g', h2, h3, h4, h5, h6, h7⟩ := lkcall_spec h1
                have hlk : wfind (wls f.1) k = some (.methodLink (mown f.1) k g'.2.1) := by
                  rcases h7 with h7 | ⟨-, h7⟩
                  · exact h7
                  · exfalso
                    have hz := nests_mm _ h7
                    rcases hmath with q | q <;> subst q <;> cases h2
                    · exact hz.1 rfl
                    · exact hz.2 rfl
                obtain ⟨⟨w1, w2⟩, ⟨w3, w4⟩, w5⟩ := mm_words
                rcases hmath with q | q
                · subst q
                  cases h2
                  have hn2 : n' = 2 := Option.some.inj (h5.symm.trans ii_two)
                  obtain ⟨x, y, e1, e2⟩ := mm_max (hlen.trans hn2) hfit hrunc
                  cases e2
                  subst e1
                  rw [hst]
                  refine va_mmax (rest := st1.map (tv sv ad)) hx hb (by rw [hml, hlr.1, hnl]) hown (wt_link hts hlk) (hts _ (mm_in w1 rfl)) (hts _ (mm_in w5 rfl)) (hts _ (mm_in w2 rfl)) (by omega) (by omega) (by omega) (by omega) hd ?_
                  exact K ad H locs (fun _ _ => rfl) hao hP hD hS hI (fun v hv => by cases hv; trivial)
                · subst q
                  cases h2
                  have hn2 : n' = 2 := Option.some.inj (h5.symm.trans ii_two)
                  obtain ⟨x, y, e1, e2⟩ := mm_min (hlen.trans hn2) hfit hrunc
                  cases e2
                  subst e1
                  rw [hst]
                  refine va_mmin (rest := st1.map (tv sv ad)) hx hb (by rw [hml, hlr.1, hnl]) hown (wt_link hts hlk) (hts _ (mm_in w3 rfl)) (hts _ (mm_in w5 rfl)) (hts _ (mm_in w4 rfl)) (by omega) (by omega) (by omega) (by omega) hd ?_
                  exact K ad H locs (fun _ _ => rfl) hao hP hD hS hI (fun v hv => by cases hv; trivial)
              · exfalso
                obtain ⟨g', h2, -, h4, -⟩ := lkcall_spec h1
                rcases hmath with q | q <;> subst q <;> cases h2 <;> cases h4
              · exfalso
                obtain ⟨g', h2, -, h4, -⟩ := lkcall_spec h1
                rcases hmath with q | q <;> subst q <;> cases h2 <;> cases h4
            | false =>
              have hmet := met_of (l := l) ih hM' hmm' hg hfit hrunc (Z := Z) (D := D) hsv hI hTa hao H.size
              obtain ⟨-, hml18, -⟩ := mok_of (by omega) hmm' hg
              have hG := wsM_good hM' hg
              have hR1 : g.2.2.2.2.1 + 1 ≤ R.frames ∧ 8 + (mml M' + 11) + 37 * g.2.2.2.2.1 ≤ R.locals := by omega
              have hA1 : ∀ q, va_A (wsl Z sv ad a.1 h) H.size q → A q := fun q hq => hq.elim (fun ⟨k, e, z⟩ => hD.2 k (q, e) z) (fun z => hA q (Nat.le_trans hS.1 z))
              have hPre : ∀ U : State, U.heap = H → s.WarmedH U.vm → va_Pc (as.map (tv sv ad)) (PcG Z sv ao xs D ad a.1 h H.size) (as.map (tv sv ad)).toArray U := fun U hU hW =>
                ⟨rfl, by rw [hU], by rw [hU]; exact hP, va_K.moved hW.alike hK, hD.weaken (fun _ _ _ _ => trivial), by rw [hU]; exact ((hO.kept hS.2.1).narrow hA1).moved hW⟩
              have hcs : (a.2.1 - c0) + (ac.2.1 - a.2.1) ≤ R.cells ∧ (a.2.2 - s0) + (ac.2.2 - a.2.2) ≤ R.slots := ⟨cnt_le hc0 hcnt.2.1 hcnt2.2.1 hrc, cnt_le hs0 hcnt.2.2 hcnt2.2.2 hrs⟩
              have hgo : ∀ {st0 : List Value} {av : Array Value}, va_Run p l e R s m args below meth c H locs (a.2.1 - c0) (a.2.2 - s0) (ac.2.1 - a.2.1) (ac.2.2 - a.2.2) (F0 m pc ls' st0) (st1.map (tv sv ad)) (QcG Z sv ao xs D ad a.1 (vc, ac, hc') (va_A (wsl Z sv ad a.1 h) H.size) av) (va_A (wsl Z sv ad a.1 h) H.size) → W p l e R s m args below meth c H locs (a.2.1 - c0) (a.2.2 - s0) Q (F0 m pc ls' st0) := by
                intro st0 av hr
                refine run_go hr hS hA1 (fun ad' H1 locs1 g1 g2 g3 g4 g5 g6 g7 => ?_)
                have e1 : (a.2.1 - c0) + (ac.2.1 - a.2.1) = ac.2.1 - c0 := cnt_eq hc0 hcnt.2.1
                have e2 : (a.2.2 - s0) + (ac.2.2 - a.2.2) = ac.2.2 - s0 := cnt_eq hs0 hcnt.2.2
                rw [e1, e2]
                exact K ad' H1 locs1 g1 g2 g3 g4 g5 g6 g7
              have hfix : CallFix p m c f.2.2.1 (mml M) s args wtbl (mown f.1) := ⟨hx, hb, hml, hown, hts⟩
              rcases hcall with ⟨hd, h1, hlen, hst⟩ | ⟨b, as', e0, hlen, hst, hkind⟩
              · obtain ⟨g', h2, h3, h4, h5, h6, h7⟩ := lkcall_spec h1
                cases hg.symm.trans h2
                have hstk : st.map (tv sv ad) = (as.map (tv sv ad)).reverse ++ st1.map (tv sv ad) := by rw [hst, List.map_append, List.map_reverse]
                rcases h7 with h7 | ⟨-, h7⟩
                · exact hgo (va_runS hfix hmet ⟨callB_of n' hts hG rfl rfl rfl (hts _ (wof_init hM' hg)) (wt_link hts h7) ⟨h6.1, h6.2, h5⟩ hR1, hts _ (wof_static hM' hg h4)⟩ ⟨blindG, hPre⟩ rfl (by rw [List.length_map]; exact hlen) (hlr.1.trans hnl) hstk (lv_room hroom) hd hcs)
                · exact hgo (va_runSN hfix hmet ⟨va_cnB n' hts hG rfl rfl rfl (hO.2.2.2.2.2.2.2.2.2 _ h7) (hts _ (wof_init hM' hg)) ⟨h6.1, h6.2, h5⟩ hR1, hts _ (wof_static hM' hg h4), trivial⟩ ⟨blindG, hPre⟩ rfl (by rw [List.length_map]; exact hlen) (hlr.1.trans hnl) hstk (lv_room hroom) hd hcs)
              · subst e0
                have hstk : st.map (tv sv ad) = (as'.map (tv sv ad)).reverse ++ .ref (ad b) :: st1.map (tv sv ad) := by rw [hst, List.map_append, List.map_reverse]; rfl
                rcases hkind with ⟨hd, h1, g2, hg2, hmis, hmo, hlt8⟩ | ⟨hd, h1⟩
                · obtain ⟨g', h2, h3, h4, h5, h6, h7⟩ := lkcall_spec h1
                  cases hg.symm.trans h2
                  cases hg.symm.trans hg2
                  have hlk : wfind (wls f.1) k = some (.methodLink (mown f.1) k g.2.1) := h7.resolve_right (fun z => z.1 rfl)
                  have hrecv : ∃ cellB : Cell, H[ad b]? = some cellB ∧ cellB.vm.isStatics = false ∧ s.vm.findClass g.2.1.cls = some cellB.cls := by
                    obtain ⟨c', fs, hb', hcc⟩ := mis_some hmis
                    have hc7 : c' = g.1 := by omega
                    subst hc7
                    by_cases h7' : g.1 < 7
                    · obtain ⟨hbn, -⟩ := obj_in hI hb' h7'
                      have hr := va_recv hK hP (vwCl_at g.1 h7') (q0 := b) (fs := fs.map (tv sv ad)) (by rw [wsl_get hbn, hb']; rfl)
                      rw [← hmo]
                      exact hr
                    · obtain ⟨hb1, hbo⟩ := obj_out hI hb' h7'
                      rcases outc_obj hbo with ⟨e, _⟩ | ⟨e, _⟩ | ⟨e, i, hi, hbi, _⟩ | ⟨e, _⟩
                      · omega
                      · omega
                      · rw [← hmo, e, hao b hb1, hbi]
                        exact vk_recv (i := i) (adK := fun i => ao (1000 + i)) hO.1 hi hS
                      · omega
                  exact hgo (va_runV hfix hmet ⟨callB_of n' hts hG rfl rfl rfl (hts _ (wof_init hM' hg)) (wt_link hts hlk) ⟨h6.1, h6.2, h5⟩ hR1, hts _ (wof_inst hM' hg (by omega)), hts _ (wof_sel hM' hg h4)⟩ ⟨blindG, hrecv, hPre⟩ rfl (by rw [List.length_map]; exact hlen) (hlr.1.trans hnl) hstk (lv_room hroom) hd hcs)
                · obtain ⟨g', h2, h3, h4, h5, h6, h7⟩ := lkcall_spec h1
                  cases hg.symm.trans h2
                  have hnmi := (kind_ok (by omega) hg).1 h4
                  have hret : g.2.2.2.1 = none := init_none (by omega) hg h4
                  have hmet' := hmet
                  unfold wsM at hmet'
                  rw [hret] at hmet'
                  have hG' : GoodIn wtbl (.code g.2.1 g.2.2.1 (mml M') none :: wtbl) := by
                    have z := hG
                    unfold wsM at z
                    rw [hret] at z
                    exact z
                  rcases h7 with h7 | ⟨-, h7⟩
                  · exact hgo (va_runI hfix hmet' ⟨callB_of n' hts hG' rfl rfl rfl (hts _ (wof_init hM' hg)) (wt_link hts h7) ⟨h6.1, h6.2, h5⟩ hR1, hnmi, hts _ (wof_inst hM' hg (by omega))⟩ ⟨blindG, hPre⟩ rfl (by rw [List.length_map]; exact hlen) (hlr.1.trans hnl) hstk (lv_room hroom) hd hcs)
                  · exact hgo (va_runIN hfix hmet' ⟨va_cnB n' hts hG' rfl rfl rfl (hO.2.2.2.2.2.2.2.2.2 _ h7) (hts _ (wof_init hM' hg)) ⟨h6.1, h6.2, h5⟩ hR1, hnmi, hts _ (wof_inst hM' hg (by omega))⟩ ⟨blindG, hPre⟩ rfl (by rw [List.length_map]; exact hlen) (hlr.1.trans hnl) hstk (lv_room hroom) hd hcs)
