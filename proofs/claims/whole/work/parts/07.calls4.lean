theorem jx_gw : ∀ w ∈ ([.instanceMethod Lib.objectInit, .code Lib.objectInit ⟨#[0xb1]⟩ 1 none, .static arraycopyName, .initialized "java/lang/System"] : List Cond), w ∈ jx_ws := jx_ws_of (ps := [(1, 27), (1, 28), (5, 127), (1, 19)]) rfl (by decide +kernel)
theorem jx_nat : (Cond.native arraycopyName) ∈ jx_ws := jx_ws_of (l := [.native arraycopyName]) (ps := [(5, 128)]) rfl (by decide +kernel) _ List.mem_cons_self
theorem jr_objI {T : jx_P} {Q : Option jx_V → jx_H → Prop} {kc ks n : Nat} {ls : List (Option jx_V)} {st : List jx_V} {h : jx_H} {a i : Nat} {z : Int} (hc : jx_at (jm_k (jt_Y T)) n = some (jx_oz 81 0 0 z)) (ha : Nat.blt a 12 = true) (hd2 : 1 ≤ jt_d T) (hst2 : Nat.ble (jx_sc st) 8 = true) (k : jx_W T Q kc ks (n + 1) ls st h) : jx_W T Q kc ks n ls (jv_r a i :: st) h := by
  intro g p l e R s mI args below meth c C H locs lr pc Rp S L V St N0 hp
  obtain ⟨hx, hb, hml, hr, hown, hts, hlk, hnm, hK, hE, hg1, hR, hck, hal⟩ := id C
  obtain ⟨hd, hnx, hsd⟩ := jx_step hck hc rfl hp
  obtain ⟨q, hqn, hq⟩ := jx_lr_at St.1 (Or.inl (Nat.le_of_ble_eq_true ha))
  have hcv := jx_cv_of g hq
  have hlink := hts _ (jx_word hal hc (List.mem_cons_self))
  rw [List.map_cons, hcv]
  refine W.objInit (a := g.1 + q) (rest := st.map (jx_cv (jt_sd T) g)) hx hb hown hlink (hts _ (jx_gw _ List.mem_cons_self)) (hts _ (jx_gw _ (List.mem_cons_of_mem _ List.mem_cons_self))) rfl (by rw [hml]; exact L.1.1) rfl hd (by rw [hR]; exact hd2) ?_ ?_
  · rw [jx_sc_cat, hR]
    have := Nat.le_of_ble_eq_true hst2
    show 2 * 0 + jx_sc st + 12 ≤ 60 * jt_d T + 60
    omega
  · exact W.eq (g2 := F0 mI (pc + 3) lr (st.map (jx_cv (jt_sd T) g))) rfl (k g p l e R s mI args below meth c C H locs lr _ Rp S L V St.2 N0 (hnx rfl))
theorem jr_copy {T : jx_P} {Q : Option jx_V → jx_H → Prop} {kc ks n : Nat} {ls : List (Option jx_V)} {st : List jx_V} {h : jx_H} {a i a0 i0 len len0 sp dp m : Nat} {spx dpx mx : Int32} {z : Int} (hc : jx_at (jm_k (jt_Y T)) n = some (jx_oz 82 0 0 z)) (ht0 : jx_ka a0 1 len0 = true) (ht : jx_ka a 1 len = true) (hd2 : 1 ≤ jt_d T) (hal0 : jt_al T = false) (hst2 : Nat.ble (jx_sc st) 8 = true) (h1 : spx = nI sp) (h2 : dpx = nI dp) (h3 : mx = nI m) (h4 : sp + m ≤ len0) (h5 : dp + m ≤ len) (k : jx_W T Q kc ks (n + 1) ls st (ju_I h a i (va_cpy (jh_I h a0 i0) (jh_I h a i) sp dp m))) : jx_W T Q kc ks n ls (jv_i mx :: jv_i dpx :: jv_r a i :: jv_i spx :: jv_r a0 i0 :: st) h := by
  intro g p l e R s mI args below meth c C H locs lr pc Rp S L V St N0 hp
  obtain ⟨hx, hb, hml, hr, hown, hts, hlk, hnm, hK, hE, hg1, hR, hck, hal⟩ := id C
  obtain ⟨hd, hnx, hsd⟩ := jx_step hck hc rfl hp
  obtain ⟨hso0, h150, hlen0⟩ := jx_ka_of ht0
  obtain ⟨hso, h15, hlen⟩ := jx_ka_of ht
  obtain ⟨q0, hqn0, hq0⟩ := jx_lr_at St.2.2.2.2.1 (Or.inr h150)
  obtain ⟨q, hqn, hq⟩ := jx_lr_at St.2.2.1 (Or.inr h15)
  have hcv0 := jx_cv_of g hq0
  have hcv := jx_cv_of g hq
  have hlink := hts _ (jx_word hal hc (List.mem_cons_self))
  subst h1; subst h2; subst h3
  have c1 : (nI sp).toNatClampNeg = sp := nI_clamp (by omega)
  have c2 : (nI dp).toNatClampNeg = dp := nI_clamp (by omega)
  have c3 : (nI m).toNatClampNeg = m := nI_clamp (by omega)
  have hDw : va_D (jx_A (jt_sd T) (jt_al T) g) (jx_wd (jt_sd T) g h) := by
    have hg : ∀ (j : Nat) (x : Nat × va_E), (jx_wd (jt_sd T) g h)[j]? = some x → j < jh_n h ∧ x.1 = g.1 + j := by
      intro j x hj
      have hjl : j < jh_n h := by have := (List.getElem?_eq_some_iff.mp hj).1; rw [jx_wd_len] at this; exact this
      refine ⟨hjl, ?_⟩
      unfold jx_wd at hj
      rw [List.getElem?_map, List.getElem?_range hjl] at hj
      cases hj
      rfl
    exact ⟨fun j1 j2 x1 x2 h1 h2 h3 => by have := hg _ _ h1; have := hg _ _ h2; omega, fun j x hj => by rw [(hg _ _ hj).2]; exact jx_Aq Rp (hg _ _ hj).1⟩
  have hnl : ((st.map (jx_cv (jt_sd T) g)).map fun v => v.category).sum + (nativeFrameWords "java/lang/System" "arraycopy" 5 + 11) ≤ R.locals := by
    rw [jx_sc_cat, hR]
    have h8 := Nat.le_of_ble_eq_true hst2
    have e9 : nativeFrameWords "java/lang/System" "arraycopy" 5 = 7 := by decide +kernel
    rw [e9]
    show jx_sc st + 18 ≤ 60 * jt_d T + 60
    omega
  simp only [List.map_cons]
  rw [hcv, hcv0]
  refine va_copyi (sp := nI sp) (dp := nI dp) (n := nI m) hx hb (by rw [hml]; exact L.1.1.symm) hown hlink (hts _ jx_nat) (hts _ (jx_gw _ (List.mem_cons_of_mem _ (List.mem_cons_of_mem _ List.mem_cons_self)))) (hts _ (jx_gw _ (List.mem_cons_of_mem _ (List.mem_cons_of_mem _ (List.mem_cons_of_mem _ List.mem_cons_self))))) hK Rp.1 hDw S q0 q 1 1 (by rw [jx_wd_at hq0 hqn0, jx_en_I hso0 (by decide) (by decide)]) (by rw [jx_wd_at hq hqn, jx_en_I hso (by decide) (by decide)]) (jx_tys_at (by decide)) (jx_tys_at (by decide)) rfl
    (nI_pos (by omega)) (nI_pos (by omega)) (nI_pos (by omega)) (by rw [c1, c3]; exact h4) (by rw [c2, c3]; exact h5) (fun _ _ => rfl) (by rw [hR]; exact hd2) hnl hd (fun H1 locs1 hP1 hD1 hS1 => ?_)
  rw [c1, c2, c3] at hP1
  have hen : (g.1 + q, jx_en (jt_sd T) g (ju_I h a i (va_cpy (jh_I h a0 i0) (jh_I h a i) sp dp m)) a i) = (g.1 + q, .inl (g.2.2.1 1, len, .inl (va_cpy (jh_I h a0 i0) (jh_I h a i) sp dp m))) := by rw [jx_en_I hso (by decide) (by decide), jg_II]
  have hwd : jx_wd (jt_sd T) g (ju_I h a i (va_cpy (jh_I h a0 i0) (jh_I h a i) sp dp m)) = (jx_wd (jt_sd T) g h).set q (g.1 + q, .inl (g.2.2.1 1, len, .inl (va_cpy (jh_I h a0 i0) (jh_I h a i) sp dp m))) := by
    rw [← hen]
    apply List.ext_getElem?
    intro j
    by_cases hj : j < jh_n h
    · have hjc : j < (jx_cells (jt_sd T)).length := by have := Rp.2.1; omega
      have hcj : (jx_cells (jt_sd T))[j]? = some ((jx_cells (jt_sd T))[j].1, (jx_cells (jt_sd T))[j].2) := List.getElem?_eq_getElem hjc
      rw [jx_wd_at hcj (show j < jh_n (ju_I h a i _) from hj)]
      by_cases e9 : j = q
      · subst e9
        have e3 := Option.some.inj (hcj.symm.trans hq)
        rw [List.getElem?_set_self (by rw [jx_wd_len]; exact hj), show (jx_cells (jt_sd T))[j].1 = a from congrArg Prod.fst e3, show (jx_cells (jt_sd T))[j].2 = i from congrArg Prod.snd e3]
      · rw [List.getElem?_set_ne (Ne.symm e9), jx_wd_at hcj hj, jx_en_same (jx_same_I ?_)]
        rintro ⟨e1, e2⟩
        rw [e1, e2] at hcj
        exact e9 ((jx_cell_facts hcj).1.symm.trans (jx_cell_facts hq).1)
    · rw [List.getElem?_eq_none (by rw [jx_wd_len]; exact Nat.not_lt.mp hj), List.getElem?_eq_none (by rw [List.length_set, jx_wd_len]; exact Nat.not_lt.mp hj)]
  exact (k g p l e R s mI args below meth c C H1 locs1 lr _ ⟨by rw [hwd]; exact hP1, Rp.2.1, fun e9 => (by rw [hal0] at e9; cases e9), Rp.2.2.2.1, Rp.2.2.2.2⟩ hS1 L V St.2.2.2.2.2 N0 (hnx rfl))
