theorem jr_callV {T : jx_P} {Q : Option jx_V → jx_H → Prop} {kc ks n b d' mc' ms' : Nat} {z : Int} {Y' : jx_M} {As : List jx_V} {ls : List (Option jx_V)} {st : List jx_V} {h : jx_H} {ck ci : Nat} (hc : jx_at (jm_k (jt_Y T)) n = some (jx_oz 80 0 b z)) (hn : jx_mn b = Y'.1) (hf : jx_fa Y') (hkd : Y'.2.2.2.2.2.1 = 0) (hck2 : ck < 12) (hcc : jx_C ck = Y'.1.cls) (hal2 : As.length = Y'.2.2.2.2.1) (hd2 : d' + 1 = jt_d T) (hL2 : (jx_ea (jv_r ck ci :: As)).length ≤ Y'.2.2.1 ∧ Y'.2.2.1 ≤ 41) (hst2 : jx_sc st ≤ 8) (hf1 : kc + mc' ≤ jt_mc T) (hf2 : ks + ms' ≤ jt_ms T)
    (hEv : jx_Ev Y' d' mc' ms' (jt_al T) (jt_sd T) (jv_r ck ci :: As) h (fun r h' => jx_W T Q (kc + mc') (ks + ms') (n + 1) ls (jx_push r st) h')) : jx_W T Q kc ks n ls (As.reverse ++ jv_r ck ci :: st) h := by
  intro g p l e R s mI args below meth c C H locs lr pc Rp S L V St N0 hp
  obtain ⟨hx, hb, hml, hr, hown, hts, hlk, hnm, hK, hE, hg1, hR, hck, hal⟩ := id C
  obtain ⟨hd, hnx, hsd⟩ := jx_step hck hc rfl hp
  have hts' := hts
  obtain ⟨f1, f2, f3, f4⟩ := jx_ck_facts hf.1
  have hw : ∀ w ∈ jx_mw Y', w.before args s = true := fun w hw => hts w (hf.2 w (List.mem_append_left _ hw))
  have hini : (Cond.initialized Y'.1.cls).before args s = true := hw _ (List.mem_append_left _ (List.mem_cons_of_mem _ List.mem_cons_self))
  have hlink : (Cond.methodLink (jt_Y T).1.cls z.toNat Y'.1).before args s = true := by rw [← hn]; exact hts _ (jx_word hal hc (List.mem_cons_self))
  have hst3 := jx_vs_app.mp St
  have hvas : jx_vs (jt_sd T) (jh_n h) (jv_r ck ci :: As) := ⟨hst3.2.1, jx_vs_rev.mp hst3.1⟩
  have hM := jx_met (g := g) (l := l) hf hvas hL2.1 hEv
  obtain ⟨q, hqn, hq⟩ := jx_lr_at hst3.2.1 (Or.inl hck2)
  have hcv := jx_cv_of g hq
  have hat := Rp.1 q _ (jx_wd_at hq hqn)
  rw [jx_en_obj hck2] at hat
  subst hR
  have hstk : ((As.reverse ++ jv_r ck ci :: st).map (jx_cv (jt_sd T) g)) = (As.map (jx_cv (jt_sd T) g)).reverse ++ .ref (g.1 + q) :: st.map (jx_cv (jt_sd T) g) := by
    rw [List.map_append, List.map_reverse, List.map_cons, hcv]
  have hPm : ∀ U : State, U.heap = H → s.WarmedH U.vm → jx_Pq (jt_sd T) (jt_al T) g (jv_r ck ci :: As) h (Value.ref (g.1 + q) :: As.map (jx_cv (jt_sd T) g)).toArray U := fun U hU hW =>
    ⟨by rw [List.map_cons, hcv], by rw [hU]; exact Rp, va_K.moved hW.alike hK, jx_ex_moved hE S hU hW, by rw [hU]; exact Nat.le_trans hg1 S.1⟩
  have hin : (Cond.instanceMethod Y'.1).before args s = true := hw _ (List.mem_append_right _ (by rw [hkd]; exact List.mem_cons_self))
  have hsel : (Cond.selects Y'.1.cls Y'.1 Y'.1).before args s = true := hw _ (List.mem_append_right _ (by rw [hkd]; exact List.mem_cons_of_mem _ List.mem_cons_self))
  have hrun := va_runV (p := p) (l := l) (e := e) (As := As.map (jx_cv (jt_sd T) g)) (b := g.1 + q) (rest := st.map (jx_cv (jt_sd T) g)) (cells := kc) (slots := ks) (below := below) (locs := locs) (meth := meth) ⟨hx, hb, hml, hown, hts⟩ hM ⟨callB_of Y'.2.2.2.2.1 hts (jx_goodIn hf) rfl rfl rfl hini hlink f3 (jx_room hd2 hL2.2), hin, hsel⟩
    ⟨jx_blind, by rw [← hcc]; exact va_recv hK Rp.1 (jx_cl_at ck hck2) (by rw [jx_wd_at hq hqn, jx_en_obj hck2]), hPm⟩ (g := F0 mI pc lr ((As.reverse ++ jv_r ck ci :: st).map (jx_cv (jt_sd T) g))) rfl (by rw [List.length_map]; exact hal2) L.1.1 hstk (by rw [jx_sc_cat]; exact Nat.le_trans (Nat.le_of_eq (Nat.zero_add _)) hst2) hd ⟨hf1, hf2⟩
  exact jx_after C S L V hst3.2.2 N0 (hnx rfl) hrun (fun r h' hq' => hq')
theorem jr_callI {T : jx_P} {Q : Option jx_V → jx_H → Prop} {kc ks n b d' mc' ms' : Nat} {z : Int} {Y' : jx_M} {As : List jx_V} {ls : List (Option jx_V)} {st : List jx_V} {h : jx_H} {ck ci : Nat} (hc : jx_at (jm_k (jt_Y T)) n = some (jx_oz 80 2 b z)) (hn : jx_mn b = Y'.1) (hf : jx_fa Y') (hkd : Y'.2.2.2.2.2.1 = 2) (hck2 : ck < 12) (hrn : Y'.2.2.2.1 = none) (hal2 : As.length = Y'.2.2.2.2.1) (hd2 : d' + 1 = jt_d T) (hL2 : (jx_ea (jv_r ck ci :: As)).length ≤ Y'.2.2.1 ∧ Y'.2.2.1 ≤ 41) (hst2 : jx_sc st ≤ 8) (hf1 : kc + mc' ≤ jt_mc T) (hf2 : ks + ms' ≤ jt_ms T)
    (hEv : jx_Ev Y' d' mc' ms' (jt_al T) (jt_sd T) (jv_r ck ci :: As) h (fun r h' => jx_W T Q (kc + mc') (ks + ms') (n + 1) ls (jx_push r st) h')) : jx_W T Q kc ks n ls (As.reverse ++ jv_r ck ci :: st) h := by
  intro g p l e R s mI args below meth c C H locs lr pc Rp S L V St N0 hp
  obtain ⟨hx, hb, hml, hr, hown, hts, hlk, hnm, hK, hE, hg1, hR, hck, hal⟩ := id C
  obtain ⟨hd, hnx, hsd⟩ := jx_step hck hc rfl hp
  have hts' := hts
  obtain ⟨f1, f2, f3, f4⟩ := jx_ck_facts hf.1
  have hw : ∀ w ∈ jx_mw Y', w.before args s = true := fun w hw => hts w (hf.2 w (List.mem_append_left _ hw))
  have hini : (Cond.initialized Y'.1.cls).before args s = true := hw _ (List.mem_append_left _ (List.mem_cons_of_mem _ List.mem_cons_self))
  have hlink : (Cond.methodLink (jt_Y T).1.cls z.toNat Y'.1).before args s = true := by rw [← hn]; exact hts _ (jx_word hal hc (List.mem_cons_self))
  have hst3 := jx_vs_app.mp St
  have hvas : jx_vs (jt_sd T) (jh_n h) (jv_r ck ci :: As) := ⟨hst3.2.1, jx_vs_rev.mp hst3.1⟩
  have hM := jx_met (g := g) (l := l) hf hvas hL2.1 hEv
  obtain ⟨q, hqn, hq⟩ := jx_lr_at hst3.2.1 (Or.inl hck2)
  have hcv := jx_cv_of g hq
  have hat := Rp.1 q _ (jx_wd_at hq hqn)
  rw [jx_en_obj hck2] at hat
  subst hR
  have hstk : ((As.reverse ++ jv_r ck ci :: st).map (jx_cv (jt_sd T) g)) = (As.map (jx_cv (jt_sd T) g)).reverse ++ .ref (g.1 + q) :: st.map (jx_cv (jt_sd T) g) := by
    rw [List.map_append, List.map_reverse, List.map_cons, hcv]
  have hPm : ∀ U : State, U.heap = H → s.WarmedH U.vm → jx_Pq (jt_sd T) (jt_al T) g (jv_r ck ci :: As) h (Value.ref (g.1 + q) :: As.map (jx_cv (jt_sd T) g)).toArray U := fun U hU hW =>
    ⟨by rw [List.map_cons, hcv], by rw [hU]; exact Rp, va_K.moved hW.alike hK, jx_ex_moved hE S hU hW, by rw [hU]; exact Nat.le_trans hg1 S.1⟩
  have hin : (Cond.instanceMethod Y'.1).before args s = true := hw _ (List.mem_append_right _ (by rw [hkd]; exact List.mem_cons_self))
  have hG := jx_goodIn hf
  rw [hrn] at hM hG
  have hrun := va_runI (p := p) (l := l) (e := e) (As := As.map (jx_cv (jt_sd T) g)) (b := g.1 + q) (rest := st.map (jx_cv (jt_sd T) g)) (cells := kc) (slots := ks) (below := below) (locs := locs) (meth := meth) ⟨hx, hb, hml, hown, hts⟩ hM ⟨callB_of Y'.2.2.2.2.1 hts hG rfl rfl rfl hini hlink f3 (jx_room hd2 hL2.2), f4.mp hkd, hin⟩
    ⟨jx_blind, hPm⟩ (g := F0 mI pc lr ((As.reverse ++ jv_r ck ci :: st).map (jx_cv (jt_sd T) g))) rfl (by rw [List.length_map]; exact hal2) L.1.1 hstk (by rw [jx_sc_cat]; exact Nat.le_trans (Nat.le_of_eq (Nat.zero_add _)) hst2) hd ⟨hf1, hf2⟩
  exact jx_after C S L V hst3.2.2 N0 (hnx rfl) hrun (fun r h' hq' => hq')
theorem jr_callS {T : jx_P} {Q : Option jx_V → jx_H → Prop} {kc ks n b d' mc' ms' : Nat} {z : Int} {Y' : jx_M} {As : List jx_V} {ls : List (Option jx_V)} {st : List jx_V} {h : jx_H} (hc : jx_at (jm_k (jt_Y T)) n = some (jx_oz 80 1 b z)) (hn : jx_mn b = Y'.1) (hf : jx_fa Y') (hkd : Y'.2.2.2.2.2.1 = 1) (hal2 : As.length = Y'.2.2.2.2.1) (hd2 : d' + 1 = jt_d T) (hL2 : (jx_ea (As)).length ≤ Y'.2.2.1 ∧ Y'.2.2.1 ≤ 41) (hst2 : jx_sc st ≤ 8) (hf1 : kc + mc' ≤ jt_mc T) (hf2 : ks + ms' ≤ jt_ms T)
    (hEv : jx_Ev Y' d' mc' ms' (jt_al T) (jt_sd T) (As) h (fun r h' => jx_W T Q (kc + mc') (ks + ms') (n + 1) ls (jx_push r st) h')) : jx_W T Q kc ks n ls (As.reverse ++ st) h := by
  intro g p l e R s mI args below meth c C H locs lr pc Rp S L V St N0 hp
  obtain ⟨hx, hb, hml, hr, hown, hts, hlk, hnm, hK, hE, hg1, hR, hck, hal⟩ := id C
  obtain ⟨hd, hnx, hsd⟩ := jx_step hck hc rfl hp
  have hts' := hts
  obtain ⟨f1, f2, f3, f4⟩ := jx_ck_facts hf.1
  have hw : ∀ w ∈ jx_mw Y', w.before args s = true := fun w hw => hts w (hf.2 w (List.mem_append_left _ hw))
  have hini : (Cond.initialized Y'.1.cls).before args s = true := hw _ (List.mem_append_left _ (List.mem_cons_of_mem _ List.mem_cons_self))
  have hlink : (Cond.methodLink (jt_Y T).1.cls z.toNat Y'.1).before args s = true := by rw [← hn]; exact hts _ (jx_word hal hc (List.mem_cons_self))
  have hst3 := jx_vs_app.mp St
  have hvas : jx_vs (jt_sd T) (jh_n h) As := jx_vs_rev.mp hst3.1
  have hM := jx_met (g := g) (l := l) hf hvas hL2.1 hEv
  subst hR
  have hstk : ((As.reverse ++ st).map (jx_cv (jt_sd T) g)) = (As.map (jx_cv (jt_sd T) g)).reverse ++ st.map (jx_cv (jt_sd T) g) := by
    rw [List.map_append, List.map_reverse]
  have hPm : ∀ U : State, U.heap = H → s.WarmedH U.vm → jx_Pq (jt_sd T) (jt_al T) g As h (As.map (jx_cv (jt_sd T) g)).toArray U := fun U hU hW =>
    ⟨rfl, by rw [hU]; exact Rp, va_K.moved hW.alike hK, jx_ex_moved hE S hU hW, by rw [hU]; exact Nat.le_trans hg1 S.1⟩
  have hstt : (Cond.static Y'.1).before args s = true := hw _ (List.mem_append_right _ (by rw [hkd]; exact List.mem_cons_self))
  have hrun := va_runS (p := p) (l := l) (e := e) (As := As.map (jx_cv (jt_sd T) g)) (rest := st.map (jx_cv (jt_sd T) g)) (cells := kc) (slots := ks) (below := below) (locs := locs) (meth := meth) ⟨hx, hb, hml, hown, hts⟩ hM ⟨callB_of Y'.2.2.2.2.1 hts (jx_goodIn hf) rfl rfl rfl hini hlink f3 (jx_room hd2 hL2.2), hstt⟩
    ⟨jx_blind, hPm⟩ (g := F0 mI pc lr ((As.reverse ++ st).map (jx_cv (jt_sd T) g))) rfl (by rw [List.length_map]; exact hal2) L.1.1 hstk (by rw [jx_sc_cat]; exact Nat.le_trans (Nat.le_of_eq (Nat.zero_add _)) hst2) hd ⟨hf1, hf2⟩
  exact jx_after C S L V hst3.2 N0 (hnx rfl) hrun (fun r h' hq' => hq')
theorem jr_callN {T : jx_P} {Q : Option jx_V → jx_H → Prop} {kc ks n b d' mc' ms' : Nat} {z : Int} {Y' : jx_M} {As : List jx_V} {ls : List (Option jx_V)} {st : List jx_V} {h : jx_H} (hc : jx_at (jm_k (jt_Y T)) n = some (jx_oz 83 1 b z)) (hn : jx_mn b = Y'.1) (hf : jx_fa Y') (hkd : Y'.2.2.2.2.2.1 = 1) (hy : Y'.1 = ⟨"JuneVote", "isLength", "(I)Z"⟩) (hnc : ((jt_Y T).1.cls = "JuneVote$Poll" ∧ z.toNat = 127) ∨ ((jt_Y T).1.cls = "JuneVote$Sway" ∧ z.toNat = 91)) (hal2 : As.length = Y'.2.2.2.2.1) (hd2 : d' + 1 = jt_d T) (hL2 : (jx_ea (As)).length ≤ Y'.2.2.1 ∧ Y'.2.2.1 ≤ 41) (hst2 : jx_sc st ≤ 8) (hf1 : kc + mc' ≤ jt_mc T) (hf2 : ks + ms' ≤ jt_ms T)
    (hEv : jx_Ev Y' d' mc' ms' (jt_al T) (jt_sd T) (As) h (fun r h' => jx_W T Q (kc + mc') (ks + ms') (n + 1) ls (jx_push r st) h')) : jx_W T Q kc ks n ls (As.reverse ++ st) h := by
  intro g p l e R s mI args below meth c C H locs lr pc Rp S L V St N0 hp
  obtain ⟨hx, hb, hml, hr, hown, hts, hlk, hnm, hK, hE, hg1, hR, hck, hal⟩ := id C
  obtain ⟨hd, hnx, hsd⟩ := jx_step hck hc rfl hp
  have hts' := hts
  obtain ⟨f1, f2, f3, f4⟩ := jx_ck_facts hf.1
  have hw : ∀ w ∈ jx_mw Y', w.before args s = true := fun w hw => hts w (hf.2 w (List.mem_append_left _ hw))
  have hini : (Cond.initialized Y'.1.cls).before args s = true := hw _ (List.mem_append_left _ (List.mem_cons_of_mem _ List.mem_cons_self))
  have hst3 := jx_vs_app.mp St
  have hvas : jx_vs (jt_sd T) (jh_n h) As := jx_vs_rev.mp hst3.1
  have hM := jx_met (g := g) (l := l) hf hvas hL2.1 hEv
  subst hR
  have hstk : ((As.reverse ++ st).map (jx_cv (jt_sd T) g)) = (As.map (jx_cv (jt_sd T) g)).reverse ++ st.map (jx_cv (jt_sd T) g) := by
    rw [List.map_append, List.map_reverse]
  have hPm : ∀ U : State, U.heap = H → s.WarmedH U.vm → jx_Pq (jt_sd T) (jt_al T) g As h (As.map (jx_cv (jt_sd T) g)).toArray U := fun U hU hW =>
    ⟨rfl, by rw [hU]; exact Rp, va_K.moved hW.alike hK, jx_ex_moved hE S hU hW, by rw [hU]; exact Nat.le_trans hg1 S.1⟩
  have hstt : (Cond.static Y'.1).before args s = true := hw _ (List.mem_append_right _ (by rw [hkd]; exact List.mem_cons_self))
  have hnl : va_Nw (.methodLinkNest (jt_Y T).1.cls z.toNat Y'.1 "JuneVote") s := by
    rw [hy]
    rcases hnc with ⟨e1, e2⟩ | ⟨e1, e2⟩
    · rw [e1, e2]; exact hE.2.2.2.2.1
    · rw [e1, e2]; exact hE.2.2.2.2.2.1
  have hrun := va_runSN (p := p) (l := l) (e := e) (As := As.map (jx_cv (jt_sd T) g)) (rest := st.map (jx_cv (jt_sd T) g)) (cells := kc) (slots := ks) (below := below) (locs := locs) (meth := meth) ⟨hx, hb, hml, hown, hts⟩ hM ⟨va_cnB Y'.2.2.2.2.1 hts (jx_goodIn hf) rfl rfl rfl hnl hini f3 (jx_room hd2 hL2.2), hstt, trivial⟩
    ⟨jx_blind, hPm⟩ (g := F0 mI pc lr ((As.reverse ++ st).map (jx_cv (jt_sd T) g))) rfl (by rw [List.length_map]; exact hal2) L.1.1 hstk (by rw [jx_sc_cat]; exact Nat.le_trans (Nat.le_of_eq (Nat.zero_add _)) hst2) hd ⟨hf1, hf2⟩
  exact jx_after C S L V hst3.2 N0 (hnx rfl) hrun (fun r h' hq' => hq')
