theorem jx_lr12 {sd n i : Nat} (h : jx_lr sd n 12 i) : i < 2 := by
  rcases h with ⟨-, h⟩ | ⟨h, -⟩ | h | ⟨q, -, h⟩
  · exact h
  · cases h
  · cases h
  · have := (jx_cell_facts h).2.1; omega
theorem jx_lr13 {sd n i : Nat} (h : jx_lr sd n 13 i) : i < 2 := by
  rcases h with ⟨h, -⟩ | ⟨-, h⟩ | h | ⟨q, -, h⟩
  · cases h
  · exact h
  · cases h
  · have := (jx_cell_facts h).2.1; omega
def jx_lenS (i : Nat) : Nat := jx_lenJ.getD i 0
def jx_bytS (i j : Nat) : Int32 := (jx_bytJ.getD i []).getD j 0
theorem jr_ldcS {T : jx_P} {Q : Option jx_V → jx_H → Prop} {kc ks n : Nat} {ls : List (Option jx_V)} {st : List jx_V} {h : jx_H} {si b : Nat} (hc : jx_at (jm_k (jt_Y T)) n = some (jx_o1 44 si b)) (hsi : si < 2) (ho : (jt_Y T).1.cls = jx_ownJ si) (hb2 : b = jx_idxJ si) (k : jx_W T Q kc ks (n + 1) ls (jv_r 12 si :: st) h) : jx_W T Q kc ks n ls st h := by
  intro g p l e R s mI args below meth c C H locs lr pc Rp S L V St N0 hp
  obtain ⟨hx, hb, hml, hr, hown, hts, hlk, hnm, hK, hE, hg1, hR, hck, hal⟩ := id C
  obtain ⟨hd, hnx, hsd⟩ := jx_step hck hc rfl hp
  have hd : decode (jt_Y T).2.1 pc = .ok (.ldc b, 2) := hd
  subst hb2
  rw [ho] at hown
  exact va_ldcS hx hb hown (hE.2.1 si hsi) hd (k g p l e R s mI args below meth c C H locs lr _ Rp S L V ⟨Or.inl ⟨rfl, hsi⟩, St⟩ N0 (hnx rfl))
theorem jr_strV {T : jx_P} {Q : Option jx_V → jx_H → Prop} {kc ks n : Nat} {ls : List (Option jx_V)} {st : List jx_V} {h : jx_H} {si b : Nat} (hc : jx_at (jm_k (jt_Y T)) n = some (jx_o1 45 0 b)) (k : jx_W T Q kc ks (n + 1) ls (jv_r 13 si :: st) h) : jx_W T Q kc ks n ls (jv_r 12 si :: st) h := by
  intro g p l e R s mI args below meth c C H locs lr pc Rp S L V St N0 hp
  obtain ⟨hx, hb, hml, hr, hown, hts, hlk, hnm, hK, hE, hg1, hR, hck, hal⟩ := id C
  obtain ⟨hd, hnx, hsd⟩ := jx_step hck hc rfl hp
  have hd : decode (jt_Y T).2.1 pc = .ok (.getfield b, 3) := hd
  have hlink := hts _ (jx_word hal hc List.mem_cons_self)
  have hi := jx_lr12 St.1
  exact vk_getf hx hb (hE.1.1 si hi).2.2.1 S hown hlink (fun _ h9 => h9) hd (k g p l e R s mI args below meth c C H locs lr _ Rp S L V ⟨Or.inr (Or.inl ⟨rfl, hi⟩), St.2⟩ N0 (hnx rfl))
theorem jr_strC {T : jx_P} {Q : Option jx_V → jx_H → Prop} {kc ks n : Nat} {ls : List (Option jx_V)} {st : List jx_V} {h : jx_H} {si b : Nat} (hc : jx_at (jm_k (jt_Y T)) n = some (jx_o1 45 1 b)) (k : jx_W T Q kc ks (n + 1) ls (jv_i 0 :: st) h) : jx_W T Q kc ks n ls (jv_r 12 si :: st) h := by
  intro g p l e R s mI args below meth c C H locs lr pc Rp S L V St N0 hp
  obtain ⟨hx, hb, hml, hr, hown, hts, hlk, hnm, hK, hE, hg1, hR, hck, hal⟩ := id C
  obtain ⟨hd, hnx, hsd⟩ := jx_step hck hc rfl hp
  have hd : decode (jt_Y T).2.1 pc = .ok (.getfield b, 3) := hd
  have hlink := hts _ (jx_word hal hc List.mem_cons_self)
  have hi := jx_lr12 St.1
  exact vk_getf hx hb (hE.1.1 si hi).2.1 S hown hlink (fun _ h9 => h9) hd (k g p l e R s mI args below meth c C H locs lr _ Rp S L V ⟨trivial, St.2⟩ N0 (hnx rfl))
theorem jr_stC {T : jx_P} {Q : Option jx_V → jx_H → Prop} {kc ks n : Nat} {ls : List (Option jx_V)} {st : List jx_V} {h : jx_H} {b : Nat} (hc : jx_at (jm_k (jt_Y T)) n = some (jx_o1 46 0 b)) (k : jx_W T Q kc ks (n + 1) ls (jv_i 1 :: st) h) : jx_W T Q kc ks n ls st h := by
  intro g p l e R s mI args below meth c C H locs lr pc Rp S L V St N0 hp
  obtain ⟨hx, hb, hml, hr, hown, hts, hlk, hnm, hK, hE, hg1, hR, hck, hal⟩ := id C
  obtain ⟨hd, hnx, hsd⟩ := jx_step hck hc rfl hp
  have hd : decode (jt_Y T).2.1 pc = .ok (.getstatic b, 3) := hd
  have hlink := hts _ (jx_word hal hc List.mem_cons_self)
  exact va_gets hx hb hE.2.2.1 S hown hlink (fun _ h9 => h9) hd (k g p l e R s mI args below meth c C H locs lr _ Rp S L V ⟨trivial, St⟩ N0 (hnx rfl))
theorem jr_stF {T : jx_P} {Q : Option jx_V → jx_H → Prop} {kc ks n : Nat} {ls : List (Option jx_V)} {st : List jx_V} {h : jx_H} {b : Nat} (hc : jx_at (jm_k (jt_Y T)) n = some (jx_o1 46 1 b)) (k : jx_W T Q kc ks (n + 1) ls (jv_r 14 0 :: st) h) : jx_W T Q kc ks n ls st h := by
  intro g p l e R s mI args below meth c C H locs lr pc Rp S L V St N0 hp
  obtain ⟨hx, hb, hml, hr, hown, hts, hlk, hnm, hK, hE, hg1, hR, hck, hal⟩ := id C
  obtain ⟨hd, hnx, hsd⟩ := jx_step hck hc rfl hp
  have hd : decode (jt_Y T).2.1 pc = .ok (.getstatic b, 3) := hd
  have hlink := hts _ (jx_word hal hc List.mem_cons_self)
  exact va_gets hx hb hE.2.2.2.1 S hown hlink (fun _ h9 => h9) hd (k g p l e R s mI args below meth c C H locs lr _ Rp S L V ⟨Or.inr (Or.inr (Or.inl rfl)), St⟩ N0 (hnx rfl))
theorem jr_tlen {T : jx_P} {Q : Option jx_V → jx_H → Prop} {kc ks n : Nat} {ls : List (Option jx_V)} {st : List jx_V} {h : jx_H} {si : Nat} (hc : jx_at (jm_k (jt_Y T)) n = some (jx_o 71)) (k : jx_W T Q kc ks (n + 1) ls (jv_i (nI (jx_lenS si)) :: st) h) : jx_W T Q kc ks n ls (jv_r 13 si :: st) h := by
  intro g p l e R s mI args below meth c C H locs lr pc Rp S L V St N0 hp
  obtain ⟨hx, hb, hml, hr, hown, hts, hlk, hnm, hK, hE, hg1, hR, hck, hal⟩ := id C
  obtain ⟨hd, hnx, hsd⟩ := jx_step hck hc rfl hp
  have hi := jx_lr13 St.1
  exact va_tlen hx hb (hE.1.1 si hi).2.2.2 S rfl hd (k g p l e R s mI args below meth c C H locs lr _ Rp S L V ⟨trivial, St.2⟩ N0 (hnx rfl))
theorem jr_tald {T : jx_P} {Q : Option jx_V → jx_H → Prop} {kc ks n : Nat} {ls : List (Option jx_V)} {st : List jx_V} {h : jx_H} {si m : Nat} {j : Int32} (hc : jx_at (jm_k (jt_Y T)) n = some (jx_o 64)) (hj : j = nI m) (hm : m < jx_lenS si) (hl : jx_lenS si < 2147483648) (k : jx_W T Q kc ks (n + 1) ls (jv_i (jx_bytS si m) :: st) h) : jx_W T Q kc ks n ls (jv_i j :: jv_r 13 si :: st) h := by
  intro g p l e R s mI args below meth c C H locs lr pc Rp S L V St N0 hp
  obtain ⟨hx, hb, hml, hr, hown, hts, hlk, hnm, hK, hE, hg1, hR, hck, hal⟩ := id C
  obtain ⟨hd, hnx, hsd⟩ := jx_step hck hc rfl hp
  have hi := jx_lr13 St.2.1
  obtain ⟨hin, hcl⟩ := jx_clamp hm hl hj
  exact va_tb hx hb (hE.1.1 si hi).2.2.2 S hin (v := .int (jx_bytS si m)) (by rw [hcl]; rfl) hd (k g p l e R s mI args below meth c C H locs lr _ Rp S L V ⟨trivial, St.2.2⟩ N0 (hnx rfl))
theorem jr_callT {T : jx_P} {Q : Option jx_V → jx_H → Prop} {kc ks n b d' mc' ms' : Nat} {z : Int} {Y' : jx_M} {As : List jx_V} {ls : List (Option jx_V)} {st : List jx_V} {h : jx_H} {ci : Nat} (hc : jx_at (jm_k (jt_Y T)) n = some (jx_oz 80 0 b z)) (hn : jx_mn b = Y'.1) (hf : jx_fa Y') (hkd : Y'.2.2.2.2.2.1 = 0) (hcc : Y'.1.cls = "java/lang/String") (hal2 : As.length = Y'.2.2.2.2.1) (hd2 : d' + 1 = jt_d T) (hL2 : (jx_ea (jv_r 12 ci :: As)).length ≤ Y'.2.2.1 ∧ Y'.2.2.1 ≤ 41) (hst2 : jx_sc st ≤ 8) (hf1 : kc + mc' ≤ jt_mc T) (hf2 : ks + ms' ≤ jt_ms T)
    (hEv : jx_Ev Y' d' mc' ms' (jt_al T) (jt_sd T) (jv_r 12 ci :: As) h (fun r h' => jx_W T Q (kc + mc') (ks + ms') (n + 1) ls (jx_push r st) h')) : jx_W T Q kc ks n ls (As.reverse ++ jv_r 12 ci :: st) h := by
  intro g p l e R s mI args below meth c C H locs lr pc Rp S L V St N0 hp
  obtain ⟨hx, hb, hml, hr, hown, hts, hlk, hnm, hK, hE, hg1, hR, hck, hal⟩ := id C
  obtain ⟨hd, hnx, hsd⟩ := jx_step hck hc rfl hp
  have hts' := hts
  obtain ⟨f1, f2, f3, f4⟩ := jx_ck_facts hf.1
  have hw : ∀ w ∈ jx_mw Y', w.before args s = true := fun w hw => hts w (hf.2 w (List.mem_append_left _ hw))
  have hini : (Cond.initialized Y'.1.cls).before args s = true := hw _ (List.mem_append_left _ (List.mem_cons_of_mem _ List.mem_cons_self))
  have hlink : (Cond.methodLink (jt_Y T).1.cls z.toNat Y'.1).before args s = true := by rw [← hn]; exact hts _ (jx_word hal hc (List.mem_cons_self))
  have hst3 := jx_vs_app.mp St
  have hvas : jx_vs (jt_sd T) (jh_n h) (jv_r 12 ci :: As) := ⟨hst3.2.1, jx_vs_rev.mp hst3.1⟩
  have hM := jx_met (g := g) (l := l) hf hvas hL2.1 hEv
  have hi := jx_lr12 hst3.2.1
  subst hR
  have hcv : jx_cv (jt_sd T) g (jv_r 12 ci) = .ref (g.2.2.2.1 ci) := rfl
  have hstk : ((As.reverse ++ jv_r 12 ci :: st).map (jx_cv (jt_sd T) g)) = (As.map (jx_cv (jt_sd T) g)).reverse ++ .ref (g.2.2.2.1 ci) :: st.map (jx_cv (jt_sd T) g) := by
    rw [List.map_append, List.map_reverse, List.map_cons, hcv]
  have hPm : ∀ U : State, U.heap = H → s.WarmedH U.vm → jx_Pq (jt_sd T) (jt_al T) g (jv_r 12 ci :: As) h (Value.ref (g.2.2.2.1 ci) :: As.map (jx_cv (jt_sd T) g)).toArray U := fun U hU hW =>
    ⟨by rw [List.map_cons, hcv], by rw [hU]; exact Rp, va_K.moved hW.alike hK, jx_ex_moved hE S hU hW, by rw [hU]; exact Nat.le_trans hg1 S.1⟩
  have hin : (Cond.instanceMethod Y'.1).before args s = true := hw _ (List.mem_append_right _ (by rw [hkd]; exact List.mem_cons_self))
  have hsel : (Cond.selects Y'.1.cls Y'.1 Y'.1).before args s = true := hw _ (List.mem_append_right _ (by rw [hkd]; exact List.mem_cons_of_mem _ List.mem_cons_self))
  have hrun := va_runV (p := p) (l := l) (e := e) (As := As.map (jx_cv (jt_sd T) g)) (b := g.2.2.2.1 ci) (rest := st.map (jx_cv (jt_sd T) g)) (cells := kc) (slots := ks) (below := below) (locs := locs) (meth := meth) ⟨hx, hb, hml, hown, hts⟩ hM ⟨callB_of Y'.2.2.2.2.1 hts (jx_goodIn hf) rfl rfl rfl hini hlink f3 (jx_room hd2 hL2.2), hin, hsel⟩
    ⟨jx_blind, by rw [hcc]; exact vk_recv hE.1 hi S, hPm⟩ (g := F0 mI pc lr ((As.reverse ++ jv_r 12 ci :: st).map (jx_cv (jt_sd T) g))) rfl (by rw [List.length_map]; exact hal2) L.1.1 hstk (by rw [jx_sc_cat]; exact Nat.le_trans (Nat.le_of_eq (Nat.zero_add _)) hst2) hd ⟨hf1, hf2⟩
  exact jx_after C S L V hst3.2.2 N0 (hnx rfl) hrun (fun r h' hq' => hq')
theorem jr_ct0 {T : jx_P} {Q : Option jx_V → jx_H → Prop} {kc ks n b d' mc' ms' : Nat} {z : Int} {Y' : jx_M} {ci : Nat} {ls : List (Option jx_V)} {st : List jx_V} {h : jx_H} (hc : jx_at (jm_k (jt_Y T)) n = some (jx_oz 80 0 b z)) (hn : jx_mn b = Y'.1) (hf : jx_fa Y') (hkd : Y'.2.2.2.2.2.1 = 0) (hcc : Y'.1.cls = "java/lang/String") (hal2 : 0 = Y'.2.2.2.2.1) (hd2 : d' + 1 = jt_d T) (hL2 : (Nat.ble (jx_ea (jv_r 12 ci :: [])).length Y'.2.2.1 && Nat.ble Y'.2.2.1 41) = true) (hst2 : Nat.ble (jx_sc st) 8 = true) (hf1 : kc + mc' ≤ jt_mc T) (hf2 : ks + ms' ≤ jt_ms T) (hEv : jx_Ev Y' d' mc' ms' (jt_al T) (jt_sd T) (jv_r 12 ci :: []) h (fun r h' => jx_W T Q (kc + mc') (ks + ms') (n + 1) ls (jx_push r st) h')) : jx_W T Q kc ks n ls (jv_r 12 ci :: st) h := jr_callT (As := []) hc hn hf hkd hcc hal2 hd2 (by rw [Bool.and_eq_true] at hL2; exact ⟨Nat.le_of_ble_eq_true hL2.1, Nat.le_of_ble_eq_true hL2.2⟩) (Nat.le_of_ble_eq_true hst2) hf1 hf2 hEv
theorem jr_ct1 {T : jx_P} {Q : Option jx_V → jx_H → Prop} {kc ks n b d' mc' ms' : Nat} {z : Int} {Y' : jx_M} {x1 : jx_V} {ci : Nat} {ls : List (Option jx_V)} {st : List jx_V} {h : jx_H} (hc : jx_at (jm_k (jt_Y T)) n = some (jx_oz 80 0 b z)) (hn : jx_mn b = Y'.1) (hf : jx_fa Y') (hkd : Y'.2.2.2.2.2.1 = 0) (hcc : Y'.1.cls = "java/lang/String") (hal2 : 1 = Y'.2.2.2.2.1) (hd2 : d' + 1 = jt_d T) (hL2 : (Nat.ble (jx_ea (jv_r 12 ci :: [x1])).length Y'.2.2.1 && Nat.ble Y'.2.2.1 41) = true) (hst2 : Nat.ble (jx_sc st) 8 = true) (hf1 : kc + mc' ≤ jt_mc T) (hf2 : ks + ms' ≤ jt_ms T) (hEv : jx_Ev Y' d' mc' ms' (jt_al T) (jt_sd T) (jv_r 12 ci :: [x1]) h (fun r h' => jx_W T Q (kc + mc') (ks + ms') (n + 1) ls (jx_push r st) h')) : jx_W T Q kc ks n ls (x1 :: jv_r 12 ci :: st) h := jr_callT (As := [x1]) hc hn hf hkd hcc hal2 hd2 (by rw [Bool.and_eq_true] at hL2; exact ⟨Nat.le_of_ble_eq_true hL2.1, Nat.le_of_ble_eq_true hL2.2⟩) (Nat.le_of_ble_eq_true hst2) hf1 hf2 hEv
theorem jr_ct2 {T : jx_P} {Q : Option jx_V → jx_H → Prop} {kc ks n b d' mc' ms' : Nat} {z : Int} {Y' : jx_M} {x1 x2 : jx_V} {ci : Nat} {ls : List (Option jx_V)} {st : List jx_V} {h : jx_H} (hc : jx_at (jm_k (jt_Y T)) n = some (jx_oz 80 0 b z)) (hn : jx_mn b = Y'.1) (hf : jx_fa Y') (hkd : Y'.2.2.2.2.2.1 = 0) (hcc : Y'.1.cls = "java/lang/String") (hal2 : 2 = Y'.2.2.2.2.1) (hd2 : d' + 1 = jt_d T) (hL2 : (Nat.ble (jx_ea (jv_r 12 ci :: [x1, x2])).length Y'.2.2.1 && Nat.ble Y'.2.2.1 41) = true) (hst2 : Nat.ble (jx_sc st) 8 = true) (hf1 : kc + mc' ≤ jt_mc T) (hf2 : ks + ms' ≤ jt_ms T) (hEv : jx_Ev Y' d' mc' ms' (jt_al T) (jt_sd T) (jv_r 12 ci :: [x1, x2]) h (fun r h' => jx_W T Q (kc + mc') (ks + ms') (n + 1) ls (jx_push r st) h')) : jx_W T Q kc ks n ls (x2 :: x1 :: jv_r 12 ci :: st) h := jr_callT (As := [x1, x2]) hc hn hf hkd hcc hal2 hd2 (by rw [Bool.and_eq_true] at hL2; exact ⟨Nat.le_of_ble_eq_true hL2.1, Nat.le_of_ble_eq_true hL2.2⟩) (Nat.le_of_ble_eq_true hst2) hf1 hf2 hEv
